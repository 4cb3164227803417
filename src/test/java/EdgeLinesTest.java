/** Lines and what they hold: "Terms", and of promises 4, 5, 12 and 13 what they say of lines. */
public final class EdgeLinesTest {
    private static final int MOST = 40;

    public static void main(String[] args) {
        fortyOrders();
        fortyAsks();
        fortyWants();
        fortyOfANewView();
        fortyAsksOfANewView();
        newIsLostToo();
        fortySaid();
        fortyHellos();
        roomForOneAgain();
        aFullLineIsTheOnlyOne();
        orderGoesOnRoundAndRound();
        aLineBothWays();
        noLineToOneself();
        Checks.end("edges: lines");
    }

    /** "40 at most (more are lost)": the 41st does not come upon the line, and those before it stay. */
    private static void fortyOrders() {
        Cast x = new Cast(3, 0);
        for (int i = 0; i < MOST; i++) {
            x.say(0, i);
            Checks.due("flying", x.flying(0, 1), i + 1);
        }
        Checks.packet(x, 0, 1, MOST - 1, OrderedCast.ORDER, 0, MOST - 1, MOST - 1);
        x.say(0, 99);
        for (int to = 1; to < 3; to++) {
            Checks.due("flying", x.flying(0, to), MOST);
            Checks.packet(x, 0, to, 0, OrderedCast.ORDER, 0, 0, 0);
            Checks.packet(x, 0, to, MOST - 1, OrderedCast.ORDER, 0, MOST - 1, MOST - 1);
        }
        Checks.bounds(x, "packet 40", () -> x.packet(0, 1, MOST, 0));
        Checks.due("the speaker heard it all the same", x.heard(0), MOST + 1);
        Checks.told(x, 0, 1, 0, 1, MOST + 1, 0, 0);
    }

    private static void fortyAsks() {
        Cast x = new Cast(2, 0);
        for (int i = 0; i < MOST + 1; i++) {
            Checks.due("say", x.say(1, i), i);
        }
        Checks.due("flying", x.flying(1, 0), MOST);
        Checks.packet(x, 1, 0, MOST - 1, OrderedCast.ASK, 0, OrderedCast.NONE, MOST - 1);
        for (int i = 0; i < MOST; i++) {
            Checks.due("ASK", x.deliver(1, 0), 1);
            Checks.due("ORDER", x.deliver(0, 1), 1);
        }
        Checks.due("the 41st ASK is lost", x.deliver(1, 0), OrderedCast.NONE);
        Checks.told(x, 1, 1, 0, 1, MOST, 1, 0);
    }

    private static void fortyWants() {
        Cast x = new Cast(2, 0);
        x.say(0, 0);
        x.lose(0, 1);
        for (int i = 0; i < MOST; i++) {
            x.say(0, i);
            x.deliver(0, 1);
        }
        Checks.due("flying", x.flying(1, 0), MOST);
        x.say(0, 9);
        Checks.due("ORDER", x.deliver(0, 1), 0);
        Checks.due("the 41st WANT is lost", x.flying(1, 0), MOST);
        Checks.packet(x, 1, 0, MOST - 1, OrderedCast.WANT, 0, 0, OrderedCast.NONE);
        Checks.told(x, 1, 1, 0, 1, MOST + 2, 0, 0);
    }

    /** NEW and what is open at once: NEW and 39 ORDERs fly, and the leader heard all. */
    private static void fortyOfANewView() {
        Cast x = new Cast(3, 0);
        x.crash(0);
        x.suspect(1, 0);
        for (int i = 0; i < MOST + 1; i++) {
            x.say(1, i);
        }
        Checks.due("nothing flies yet", x.flying(1, 2), 0);
        x.suspect(2, 0);
        Checks.due("STATE", x.deliver(2, 1), MOST + 1);
        for (int to = 0; to < 3; to += 2) {
            Checks.due("flying", x.flying(1, to), MOST);
            Checks.packet(x, 1, to, 0, OrderedCast.NEW, 1, 0, OrderedCast.NONE);
            Checks.packet(x, 1, to, 1, OrderedCast.ORDER, 1, 0, 0);
            Checks.packet(x, 1, to, MOST - 1, OrderedCast.ORDER, 1, MOST - 2, MOST - 2);
        }
    }

    private static void fortyAsksOfANewView() {
        Cast x = new Cast(3, 0);
        x.crash(0);
        x.suspect(2, 0);
        for (int i = 0; i < MOST + 1; i++) {
            x.say(2, i);
        }
        x.suspect(1, 0);
        x.deliver(2, 1);
        Checks.due("NEW", x.deliver(1, 2), 0);
        Checks.due("flying", x.flying(2, 1), MOST);
        Checks.packet(x, 2, 1, 0, OrderedCast.ASK, 1, OrderedCast.NONE, 0);
        Checks.packet(x, 2, 1, MOST - 1, OrderedCast.ASK, 1, OrderedCast.NONE, MOST - 1);
        Checks.told(x, 2, 1, 1, 1, 0, MOST + 1, 1);
    }

    /** A line to a crashed node that is full of ASK has no room for NEW; with 39 it has. */
    private static void newIsLostToo() {
        for (int asks = MOST - 1; asks <= MOST; asks++) {
            Cast x = new Cast(2, 0);
            for (int i = 0; i < asks; i++) {
                x.say(1, i);
            }
            x.crash(0);
            Checks.due("suspect", x.suspect(1, 0), asks);
            Checks.due("flying", x.flying(1, 0), MOST);
            Checks.packet(x, 1, 0, MOST - 1, asks == MOST ? OrderedCast.ASK : OrderedCast.NEW);
        }
    }

    private static void fortySaid() {
        Cast x = new Cast(3, 1);
        for (int i = 0; i < MOST; i++) {
            x.say(1, i);
        }
        Checks.due("flying", x.flying(1, 0), MOST);
        x.say(1, 99);
        for (int to = 0; to < 3; to += 2) {
            Checks.due("flying", x.flying(1, to), MOST);
            Checks.packet(x, 1, to, 0, OrderedCast.SAID, 1, OrderedCast.NONE, 0);
            Checks.packet(x, 1, to, MOST - 1, OrderedCast.SAID, MOST, OrderedCast.NONE, MOST - 1);
        }
        Checks.told(x, 1, 1, MOST + 1, 1, 0, 0, 0);
    }

    private static void fortyHellos() {
        Cast x = new Cast(2, 1);
        for (int i = 1; i <= MOST + 1; i++) {
            Checks.due("hello", x.hello(0), i);
        }
        Checks.due("flying", x.flying(0, 1), MOST);
        Checks.packet(x, 0, 1, MOST - 1, OrderedCast.HELLO, MOST, OrderedCast.NONE, OrderedCast.NONE);
        for (int i = 0; i < MOST; i++) {
            Checks.due("HELLO", x.deliver(0, 1), 0);
        }
        Checks.due("the 41st HELLO is lost", x.deliver(0, 1), OrderedCast.NONE);
        Checks.told(x, 1, 1, MOST + 1, 1, 0, 0, 0);
    }

    /** When one has gone there is room for one, and for no other. */
    private static void roomForOneAgain() {
        for (int engine = 0; engine < 2; engine++) {
            Cast x = new Cast(2, engine);
            for (int i = 0; i < MOST; i++) {
                x.say(0, i);
            }
            x.deliver(0, 1);
            Checks.due("flying", x.flying(0, 1), MOST - 1);
            x.say(0, 100);
            x.say(0, 101);
            Checks.due("flying", x.flying(0, 1), MOST);
            Checks.due("the first now", x.packet(0, 1, 0, 3), 1);
            Checks.due("the last now", x.packet(0, 1, MOST - 1, 3), MOST);
        }
        Cast y = new Cast(2, 0);
        for (int i = 0; i < MOST; i++) {
            y.say(0, i);
        }
        Checks.due("lose", y.lose(0, 1), MOST - 1);
        y.say(0, 100);
        y.say(0, 101);
        Checks.due("lose", y.lose(0, 1), MOST - 1);
        Checks.due("the last now", y.packet(0, 1, MOST - 2, 3), MOST);
    }

    /** "From each node to each other one there is a LINE": what is lost on one is not lost on the others. */
    private static void aFullLineIsTheOnlyOne() {
        for (int engine = 0; engine < 2; engine++) {
            Cast x = new Cast(3, engine);
            for (int i = 0; i < MOST + 1; i++) {
                x.say(0, i);
                x.deliver(0, 2);
            }
            Checks.due("the full line", x.flying(0, 1), MOST);
            Checks.due("the other line", x.flying(0, 2), 0);
            Checks.due("the last thing comes there", x.told(2, engine == 0 ? 3 : 1), engine == 0 ? MOST + 1 : MOST + 2);
            Checks.due("nothing the other way", x.flying(1, 0), 0);
        }
    }

    /** "on which packets stay in their order": also when more than 40 have gone over a line. */
    private static void orderGoesOnRoundAndRound() {
        for (int engine = 0; engine < 2; engine++) {
            Cast x = new Cast(2, engine);
            int said = 0;
            int come = 0;
            while (said < 60) {
                for (int i = 0; i < 7 && said < 60; i++) {
                    Checks.due("say", x.say(0, said), said);
                    said++;
                }
                for (int i = 0; i < 5; i++) {
                    Checks.due("the first", x.packet(0, 1, 0, 3), come);
                    Checks.due("the last", x.packet(0, 1, said - come - 1, 3), said - 1);
                    Checks.due("deliver", x.deliver(0, 1), 1);
                    come++;
                }
                Checks.due("flying", x.flying(0, 1), said - come);
            }
            while (come < said) {
                Checks.due("deliver", x.deliver(0, 1), 1);
                come++;
            }
            Checks.due("no more", x.deliver(0, 1), OrderedCast.NONE);
            Checks.due("shared", x.shared(0, 1), engine == 0 ? 60 : 0);
            Checks.due("the last one heard", x.at(1, 59), 59);
        }
    }

    /** From one to another is not from the other to the one. */
    private static void aLineBothWays() {
        Cast x = new Cast(2, 1);
        x.say(0, 1);
        x.say(1, 2);
        x.say(1, 3);
        Checks.due("flying", x.flying(0, 1), 1);
        Checks.due("flying", x.flying(1, 0), 2);
        Checks.due("deliver", x.deliver(0, 1), 1);
        Checks.due("flying", x.flying(0, 1), 0);
        Checks.due("flying", x.flying(1, 0), 2);
    }

    /** "to each other one", "to all others": nothing goes to oneself, whatever a node sends. */
    private static void noLineToOneself() {
        Cast x = new Cast(3, 0);
        x.say(0, 1);
        x.say(1, 2);
        Checks.bounds(x, "packet to oneself", () -> x.packet(0, 0, 0, 0));
        Checks.bounds(x, "packet to oneself", () -> x.packet(1, 1, 0, 0));
        x.crash(0);
        x.suspect(1, 0);
        x.suspect(2, 0);
        x.deliver(2, 1);
        Checks.told(x, 1, 1, 1, 1, 1, 0, 1);
        Checks.bounds(x, "packet to oneself", () -> x.packet(1, 1, 0, 0));
        Checks.bounds(x, "packet to oneself", () -> x.packet(2, 2, 0, 0));
        Cast y = new Cast(3, 1);
        y.say(0, 1);
        y.hello(1);
        Checks.bounds(y, "packet to oneself", () -> y.packet(0, 0, 0, 0));
        Checks.bounds(y, "packet to oneself", () -> y.packet(1, 1, 0, 0));
        Checks.told(y, 0, 1, 1, 1, 0, 0, 0);
    }
}
