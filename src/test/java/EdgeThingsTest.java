/** The most things that are said, and what a thing is: "Terms", promises 2 and 11. */
public final class EdgeThingsTest {
    private static final int MOST = 60;

    public static void main(String[] args) {
        sixtyOfOne();
        sixtyOfAllTogether();
        whatCountsToo();
        sixtyAgainAfterClear();
        numbersInTheirOrder();
        anyText();
        Checks.end("edges: things");
    }

    /** "60 at most": thing 59 is the last, of a node that numbers or asks, or has a clock. */
    private static void sixtyOfOne() {
        for (int engine = 0; engine < 2; engine++) {
            for (int speaker = 0; speaker < 2; speaker++) {
                Cast x = new Cast(2, engine);
                for (int i = 0; i < MOST - 1; i++) {
                    Checks.due("say", x.say(speaker, i), i);
                }
                Checks.bounds(x, "thing 59 is not yet", () -> x.thing(MOST - 1, 0));
                Checks.due("say the last", x.say(speaker, 77), MOST - 1);
                Checks.due("thing 59", x.thing(MOST - 1, 1), 77);
                int node = speaker;
                Checks.unsupported(x, "say one more", () -> x.say(node, 78));
                Checks.unsupported(x, "say one more by another", () -> x.say(1 - node, 78));
                Checks.bounds(x, "thing 60", () -> x.thing(MOST, 0));
            }
        }
    }

    /** "60 at most": they are counted over all nodes. */
    private static void sixtyOfAllTogether() {
        for (int engine = 0; engine < 2; engine++) {
            Cast x = new Cast(5, engine);
            for (int i = 0; i < MOST; i++) {
                Checks.due("say", x.say(i % 5, i), i);
                Checks.due("speaker", x.thing(i, 0), i % 5);
            }
            for (int i = 0; i < 5; i++) {
                int node = i;
                Checks.unsupported(x, "say one more", () -> x.say(node, 0));
            }
        }
    }

    /** What crashed nodes said counts, and what nobody will hear; what was refused and HELLO do not. */
    private static void whatCountsToo() {
        for (int engine = 0; engine < 2; engine++) {
            Cast x = new Cast(3, engine);
            for (int i = 0; i < 30; i++) {
                x.say(0, i);
            }
            x.crash(0);
            x.suspect(2, 0);
            Checks.state(x, "say of a crashed one", () -> x.say(0, 0));
            Checks.bounds(x, "say of no node", () -> x.say(3, 0));
            if (engine == 1) {
                x.hello(1);
            }
            for (int i = 30; i < MOST; i++) {
                Checks.due("say", x.say(2, i), i);
            }
            Checks.unsupported(x, "say one more", () -> x.say(1, 0));
        }
    }

    /** "All is as at first": 60 again. */
    private static void sixtyAgainAfterClear() {
        for (int engine = 0; engine < 2; engine++) {
            Cast x = new Cast(2, engine);
            for (int i = 0; i < MOST; i++) {
                x.say(0, i);
            }
            x.clear();
            Checks.bounds(x, "thing 0 after clear", () -> x.thing(0, 1));
            for (int i = 0; i < MOST; i++) {
                Checks.due("say", x.say(1, -i), i);
                Checks.due("text", x.thing(i, 1), -i);
            }
            Checks.unsupported(x, "say one more", () -> x.say(1, 0));
        }
    }

    /** "THINGS that are said have numbers 0, 1, ..": as they are said, whoever says them and hears them. */
    private static void numbersInTheirOrder() {
        for (int engine = 0; engine < 2; engine++) {
            Cast x = new Cast(3, engine);
            Checks.due("say", x.say(2, 5), 0);
            Checks.due("the same text is another thing", x.say(2, 5), 1);
            Checks.due("say", x.say(0, 5), 2);
            x.crash(1);
            Checks.due("say", x.say(2, 5), 3);
            Checks.bounds(x, "thing 4", () -> x.thing(4, 0));
        }
    }

    /** "a SPEAKER and a text, an int". */
    private static void anyText() {
        int[] texts = {Integer.MIN_VALUE, -1, 0, 1, Integer.MAX_VALUE};
        for (int engine = 0; engine < 2; engine++) {
            Cast x = new Cast(5, engine);
            for (int i = 0; i < texts.length; i++) {
                x.say(4 - i, texts[i]);
            }
            for (int i = 0; i < texts.length; i++) {
                Checks.due("speaker", x.thing(i, 0), 4 - i);
                Checks.due("text", x.thing(i, 1), texts[i]);
                Checks.due("time", x.thing(i, 2), engine);
            }
        }
    }
}
