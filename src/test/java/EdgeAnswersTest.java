/** What calls answer where there is nothing, or where an engine has no such thing: promises 4, 5 and 7 to 14. */
public final class EdgeAnswersTest {
    private static final int NONE = OrderedCast.NONE;

    public static void main(String[] args) {
        for (int engine = 0; engine < 2; engine++) {
            deliverOfAnEmptyLine(engine);
            deliverToACrashedOne(engine);
            deliverFromACrashedOne(engine);
            rowsAtFirst(engine);
            sharedRows(engine);
            flyingUpAndDown(engine);
            aliveOrCrashed(engine);
            suspectsUpToAll(engine);
        }
        deliverTellsOnlyOfTheOne();
        deliverTellsAllThatWereHeard();
        loseDownToNothing();
        suspectTellsWhatWasHeardByThat();
        rowsOfDifferentOrders();
        timesByNumbers();
        packetsByNumbers();
        packetsByClocks();
        toldByNumbers();
        toldByClocks();
        Checks.end("edges: answers");
    }

    /** "NONE, if there is no packet": also to or from one that has crashed, and again and again. */
    private static void deliverOfAnEmptyLine(int engine) {
        Cast x = new Cast(3, engine);
        Checks.due("deliver", x.deliver(0, 1), NONE);
        x.say(0, 1);
        x.deliver(0, 1);
        Checks.due("deliver", x.deliver(0, 1), NONE);
        Checks.due("deliver", x.deliver(0, 1), NONE);
        x.crash(1);
        Checks.due("deliver to a crashed one", x.deliver(0, 1), NONE);
        Checks.due("deliver from a crashed one", x.deliver(1, 2), NONE);
        Checks.due("the other line is as it was", x.flying(0, 2), 1);
    }

    /** "it goes without more if that node has crashed (0)": one packet a call, and nothing comes back. */
    private static void deliverToACrashedOne(int engine) {
        Cast x = new Cast(2, engine);
        x.say(1, 1);
        x.say(1, 2);
        x.crash(0);
        Checks.due("deliver", x.deliver(1, 0), 0);
        Checks.due("flying", x.flying(1, 0), 1);
        Checks.due("the second is the first now", x.packet(1, 0, 0, 3), 1);
        Checks.due("deliver", x.deliver(1, 0), 0);
        Checks.due("deliver", x.deliver(1, 0), NONE);
        Checks.due("nothing comes back", x.flying(0, 1), 0);
        Checks.told(x, 0, 0, 0, 1, 0, 0, 0);
        Checks.row(x, 0);
    }

    /** "what flies from it still comes": all of it. */
    private static void deliverFromACrashedOne(int engine) {
        Cast x = new Cast(2, engine);
        x.say(0, 1);
        x.say(0, 2);
        x.crash(0);
        Checks.due("flying", x.flying(0, 1), 2);
        Checks.due("deliver", x.deliver(0, 1), 1);
        Checks.due("deliver", x.deliver(0, 1), 1);
        Checks.due("deliver", x.deliver(0, 1), NONE);
        Checks.row(x, 1, 0, 1);
    }

    /** "how many things were heard then by the node to which it came": not by others, nor before. */
    private static void deliverTellsOnlyOfTheOne() {
        Cast x = new Cast(3, 0);
        x.say(0, 1);
        x.say(1, 2);
        Checks.due("ASK", x.deliver(1, 0), 1);
        Checks.due("ORDER", x.deliver(0, 2), 1);
        Checks.due("ORDER", x.deliver(0, 2), 1);
        Checks.due("heard", x.heard(1), 0);
        Checks.due("heard", x.heard(2), 2);
    }

    private static void deliverTellsAllThatWereHeard() {
        Cast x = new Cast(2, 0);
        for (int i = 0; i < 40; i++) {
            x.say(0, i);
        }
        x.lose(0, 1);
        for (int i = 1; i < 40; i++) {
            Checks.due("ORDER behind a gap", x.deliver(0, 1), 0);
        }
        x.deliver(1, 0);
        Checks.due("the gap", x.deliver(0, 1), 40);
        Checks.due("heard", x.heard(1), 40);
    }

    /** "how many are left; NONE, if there is none": 0 is not NONE. */
    private static void loseDownToNothing() {
        Cast x = new Cast(2, 0);
        Checks.due("lose", x.lose(0, 1), NONE);
        for (int i = 0; i < 41; i++) {
            x.say(0, i);
        }
        x.crash(1);
        for (int left = 39; left >= 0; left--) {
            Checks.due("the first", x.packet(0, 1, 0, 3), 39 - left);
            Checks.due("lose", x.lose(0, 1), left);
        }
        Checks.due("lose", x.lose(0, 1), NONE);
        Checks.due("lose", x.lose(0, 1), NONE);
        Checks.due("flying", x.flying(0, 1), 0);
    }

    /** "how many things it heard by that": none, one, or several; not what it heard before. */
    private static void suspectTellsWhatWasHeardByThat() {
        Cast x = new Cast(3, 0);
        x.say(1, 1);
        x.deliver(1, 0);
        x.deliver(0, 1);
        x.say(1, 2);
        x.say(1, 3);
        x.crash(0);
        x.crash(2);
        Checks.due("suspect", x.suspect(1, 0), 0);
        Checks.due("heard before", x.heard(1), 1);
        Checks.due("suspect", x.suspect(1, 2), 2);
        Checks.due("heard", x.heard(1), 3);
    }

    /** "How many things a node has heard", "Thing k of these": nothing at first, and all when it has crashed. */
    private static void rowsAtFirst(int engine) {
        Cast x = new Cast(2, engine);
        Checks.due("heard", x.heard(0), 0);
        Checks.bounds(x, "at 0", () -> x.at(1, 0));
        x.say(0, 7);
        x.deliver(0, 1);
        Checks.due("heard", x.heard(1), 1);
        Checks.due("a thing, not its text", x.at(1, 0), 0);
        Checks.bounds(x, "at 1", () -> x.at(1, 1));
        x.crash(1);
        Checks.due("heard", x.heard(1), 1);
        Checks.due("at", x.at(1, 0), 0);
    }

    /** "How many of the first things that two nodes heard are the same": none, some, all of the shorter row. */
    private static void sharedRows(int engine) {
        Cast x = new Cast(2, engine);
        Checks.due("both have heard nothing", x.shared(0, 1), 0);
        Checks.due("of itself", x.shared(1, 1), 0);
        x.say(0, 1);
        x.say(0, 2);
        x.deliver(0, 1);
        Checks.due("one has heard nothing, or one the half", x.shared(0, 1), engine == 0 ? 1 : 0);
        Checks.due("the other way", x.shared(1, 0), engine == 0 ? 1 : 0);
        x.deliver(0, 1);
        if (engine == 1) {
            x.hello(1);
            x.deliver(1, 0);
        }
        Checks.due("all", x.shared(0, 1), 2);
        Checks.due("of itself", x.shared(1, 1), 2);
        x.crash(0);
        Checks.due("of a crashed one", x.shared(1, 0), 2);
    }

    /** Only up to the first that differs, though the same things come behind it. */
    private static void rowsOfDifferentOrders() {
        Cast x = new Cast(4, 1);
        x.say(3, 1);
        for (int to = 0; to < 3; to++) {
            x.deliver(3, to);
        }
        x.crash(2);
        x.hello(0);
        x.deliver(0, 1);
        x.hello(1);
        x.deliver(1, 0);
        x.suspect(0, 2);
        x.suspect(1, 2);
        Checks.row(x, 0, 0);
        Checks.row(x, 1, 0);
        x.say(3, 2);
        x.say(3, 3);
        x.say(1, 4);
        x.crash(3);
        x.deliver(1, 0);
        x.suspect(0, 3);
        x.suspect(1, 3);
        Checks.row(x, 0, 0, 3);
        x.deliver(3, 0);
        x.deliver(3, 0);
        x.deliver(3, 1);
        x.deliver(3, 1);
        x.hello(0);
        x.deliver(0, 1);
        Checks.row(x, 0, 0, 3, 1, 2);
        Checks.row(x, 1, 0, 1, 2, 3);
        Checks.due("shared", x.shared(0, 1), 1);
        Checks.due("shared", x.shared(1, 0), 1);
        Checks.due("shared with one that heard nothing", x.shared(1, 2), 0);
    }

    private static void flyingUpAndDown(int engine) {
        Cast x = new Cast(2, engine);
        for (int i = 0; i < 40; i++) {
            Checks.due("flying", x.flying(0, 1), i);
            x.say(0, i);
        }
        for (int i = 40; i > 0; i--) {
            Checks.due("flying", x.flying(0, 1), i);
            x.deliver(0, 1);
        }
        Checks.due("flying", x.flying(0, 1), 0);
    }

    /** "whether it is alive, 1 or 0": from its crash on, and no other node's. */
    private static void aliveOrCrashed(int engine) {
        Cast x = new Cast(5, engine);
        for (int crashed = 0; crashed < 5; crashed++) {
            for (int node = 0; node < 5; node++) {
                Checks.due("alive", x.told(node, 0), node < crashed ? 0 : 1);
            }
            x.crash(crashed);
        }
        Checks.due("alive", x.told(4, 0), 0);
    }

    /** "nodes that it suspects (5)": up to all others, and still when it has crashed. */
    private static void suspectsUpToAll(int engine) {
        Cast x = new Cast(5, engine);
        for (int other = 0; other < 4; other++) {
            Checks.due("suspected", x.told(4, 5), other);
            x.crash(other);
            x.suspect(4, other);
        }
        Checks.due("suspected", x.told(4, 5), 4);
        x.crash(4);
        Checks.due("suspected by a crashed one", x.told(4, 5), 4);
    }

    /** "time (2; 0 by numbers)". */
    private static void timesByNumbers() {
        Cast x = new Cast(3, 0);
        for (int i = 0; i < 4; i++) {
            x.say(i % 3, i);
        }
        x.deliver(1, 0);
        for (int i = 0; i < 4; i++) {
            Checks.due("time", x.thing(i, 2), 0);
        }
    }

    /** "place, or how many places its log has (2; NONE without), thing (3; NONE without)". */
    private static void packetsByNumbers() {
        Cast x = new Cast(3, 0);
        x.say(1, 1);
        x.say(0, 2);
        x.say(0, 3);
        Checks.packet(x, 1, 0, 0, OrderedCast.ASK, 0, NONE, 0);
        Checks.packet(x, 0, 2, 1, OrderedCast.ORDER, 0, 1, 2);
        x.lose(0, 2);
        x.deliver(0, 2);
        Checks.packet(x, 2, 0, 0, OrderedCast.WANT, 0, 0, NONE);
        x.crash(0);
        x.suspect(1, 0);
        x.suspect(2, 0);
        Checks.packet(x, 2, 1, 0, OrderedCast.STATE, 1, 2, NONE);
        x.deliver(2, 1);
        Checks.packet(x, 1, 2, 0, OrderedCast.NEW, 1, 2, NONE);
        Checks.packet(x, 1, 2, 1, OrderedCast.ORDER, 1, 2, 0);
        Cast y = new Cast(3, 0);
        y.crash(0);
        y.suspect(2, 0);
        y.suspect(1, 0);
        Checks.packet(y, 2, 1, 0, OrderedCast.STATE, 1, 0, NONE);
        y.deliver(2, 1);
        Checks.packet(y, 1, 2, 0, OrderedCast.NEW, 1, 0, NONE);
    }

    private static void packetsByClocks() {
        Cast x = new Cast(2, 1);
        x.hello(1);
        x.say(1, 5);
        Checks.packet(x, 1, 0, 0, OrderedCast.HELLO, 1, NONE, NONE);
        Checks.packet(x, 1, 0, 1, OrderedCast.SAID, 2, NONE, 0);
    }

    /** "its view, or clock (1), whether it is settled, 1 or 0 (2", "places of its log up to the last one", "open things". */
    private static void toldByNumbers() {
        Cast x = new Cast(3, 0);
        x.say(2, 1);
        x.say(2, 2);
        x.say(1, 3);
        Checks.told(x, 2, 1, 0, 1, 0, 2, 0);
        x.deliver(2, 0);
        Checks.told(x, 2, 1, 0, 1, 0, 2, 0);
        x.deliver(0, 2);
        Checks.told(x, 2, 1, 0, 1, 1, 1, 0);
        Checks.told(x, 0, 1, 0, 1, 1, 0, 0);
        x.crash(0);
        x.suspect(2, 0);
        Checks.told(x, 2, 1, 1, 0, 1, 1, 1);
        x.crash(2);
        Checks.told(x, 2, 0, 1, 0, 1, 1, 1);
        Checks.told(x, 0, 0, 0, 1, 1, 0, 0);
        Checks.told(x, 1, 1, 0, 1, 0, 1, 0);
    }

    /** "(2; by clocks 1)", "(3; by clocks 0)", "(4; by clocks 0)": whatever was said, heard or suspected. */
    private static void toldByClocks() {
        Cast x = new Cast(3, 1);
        x.say(1, 5);
        x.say(1, 6);
        x.deliver(1, 2);
        Checks.told(x, 1, 1, 2, 1, 0, 0, 0);
        Checks.told(x, 2, 1, 2, 1, 0, 0, 0);
        x.crash(0);
        x.suspect(1, 0);
        x.suspect(2, 0);
        Checks.told(x, 1, 1, 2, 1, 0, 0, 1);
        Checks.told(x, 2, 1, 2, 1, 0, 0, 1);
        Checks.row(x, 2, 0);
        x.crash(1);
        Checks.told(x, 1, 0, 2, 1, 0, 0, 1);
        Checks.told(x, 0, 0, 0, 1, 0, 0, 0);
    }
}
