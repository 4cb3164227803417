/** Promise 7: suspect. */
public final class Promise07SuspectTest {
    public static void main(String[] args) {
        theLeader();
        anotherThanTheLeader();
        oneAfterTheOther();
        theNextLeaderAlone();
        passedOverLeaders();
        byClocks();
        byClocksOutOfOrder();
        refusals();
        Checks.end("promise 7");
    }

    private static void theLeader() {
        Cast x = new Cast(3, 0);
        x.say(0, 1);
        x.deliver(0, 2);
        x.crash(0);
        Checks.due("suspect", x.suspect(2, 0), 0);
        Checks.told(x, 2, 1, 1, 0, 1, 0, 1);
        Checks.packet(x, 2, 1, 0, OrderedCast.STATE, 1, 1, OrderedCast.NONE);
        Checks.due("to the next leader only", x.flying(2, 0), 0);
        Checks.due("suspect", x.suspect(1, 0), 0);
        Checks.told(x, 1, 1, 1, 0, 0, 0, 1);
        Checks.due("no STATE to oneself", x.flying(1, 2), 0);
    }

    private static void anotherThanTheLeader() {
        Cast x = new Cast(3, 0);
        x.crash(2);
        Checks.due("suspect", x.suspect(0, 2), 0);
        Checks.told(x, 0, 1, 0, 1, 0, 0, 1);
        Checks.due("suspect", x.suspect(1, 2), 0);
        Checks.told(x, 1, 1, 0, 1, 0, 0, 1);
        Checks.due("nothing flies", x.flying(0, 1) + x.flying(1, 0), 0);
    }

    private static void oneAfterTheOther() {
        Cast x = new Cast(4, 0);
        x.crash(0);
        x.crash(1);
        x.suspect(3, 0);
        Checks.packet(x, 3, 1, 0, OrderedCast.STATE, 1, 0, OrderedCast.NONE);
        x.suspect(3, 1);
        Checks.told(x, 3, 1, 2, 0, 0, 0, 2);
        Checks.packet(x, 3, 2, 0, OrderedCast.STATE, 2, 0, OrderedCast.NONE);
        x.deliver(3, 2);
        Checks.told(x, 2, 1, 2, 0, 0, 0, 0);
        x.suspect(2, 1);
        Checks.told(x, 2, 1, 2, 0, 0, 0, 1);
        x.suspect(2, 0);
        Checks.told(x, 2, 1, 2, 1, 0, 0, 2);
        Checks.packet(x, 2, 3, 0, OrderedCast.NEW, 2, 0, OrderedCast.NONE);
    }

    private static void theNextLeaderAlone() {
        Cast x = new Cast(2, 0);
        for (int i = 0; i < 3; i++) {
            x.say(0, i);
        }
        x.say(1, 9);
        x.lose(0, 1);
        x.deliver(0, 1);
        x.deliver(0, 1);
        x.crash(0);
        Checks.due("heard by that: two, and the open one", x.suspect(1, 0), 3);
        Checks.row(x, 1, 1, 2, 3);
        Checks.told(x, 1, 1, 1, 1, 4, 0, 1);
        Checks.packet(x, 1, 0, x.flying(1, 0) - 2, OrderedCast.NEW, 1, 3, OrderedCast.NONE);
        Checks.packet(x, 1, 0, x.flying(1, 0) - 1, OrderedCast.ORDER, 1, 3, 3);
    }

    private static void passedOverLeaders() {
        Cast x = new Cast(5, 0);
        for (int i = 0; i < 3; i++) {
            x.crash(i);
        }
        x.suspect(4, 1);
        x.suspect(4, 2);
        Checks.told(x, 4, 1, 0, 1, 0, 0, 2);
        x.suspect(4, 0);
        Checks.told(x, 4, 1, 3, 0, 0, 0, 3);
        Checks.packet(x, 4, 3, 0, OrderedCast.STATE, 3, 0, OrderedCast.NONE);
        x.crash(3);
        x.suspect(4, 3);
        Checks.told(x, 4, 1, 4, 1, 0, 0, 4);
        for (int i = 0; i < 4; i++) {
            Checks.packet(x, 4, i, x.flying(4, i) - 1, OrderedCast.NEW, 4, 0, OrderedCast.NONE);
        }
    }

    private static void byClocks() {
        Cast x = new Cast(3, 1);
        x.say(0, 1);
        x.say(0, 2);
        x.hello(1);
        x.hello(1);
        x.hello(1);
        x.deliver(1, 0);
        x.deliver(1, 0);
        x.deliver(1, 0);
        Checks.row(x, 0);
        x.crash(2);
        Checks.due("suspect", x.suspect(0, 2), 2);
        Checks.row(x, 0, 0, 1);
        Checks.told(x, 0, 1, 5, 1, 0, 0, 1);
        Checks.due("another has not heard yet", x.heard(1), 0);
    }

    /** Not in one order, as something still flies from the one that is suspected. */
    private static void byClocksOutOfOrder() {
        Cast x = new Cast(2, 1);
        x.say(1, 1);
        x.say(0, 2);
        x.hello(0);
        x.crash(1);
        Checks.due("suspect", x.suspect(0, 1), 1);
        Checks.due("what flies from it still comes", x.deliver(1, 0), 1);
        Checks.row(x, 0, 1, 0);
    }

    private static void refusals() {
        for (int engine = 0; engine < 2; engine++) {
            Cast x = new Cast(4, engine);
            x.crash(1);
            x.crash(2);
            x.suspect(0, 1);
            Checks.bounds(x, "suspect of -1", () -> x.suspect(-1, -1));
            Checks.bounds(x, "suspect of 4", () -> x.suspect(4, 1));
            Checks.bounds(x, "suspect another 4", () -> x.suspect(2, 4));
            Checks.bounds(x, "suspect another -1", () -> x.suspect(0, -1));
            Checks.argument(x, "suspect oneself", () -> x.suspect(0, 0));
            Checks.argument(x, "suspect one that is alive", () -> x.suspect(0, 3));
            Checks.argument(x, "suspect again", () -> x.suspect(0, 1));
            Checks.state(x, "a crashed one suspects", () -> x.suspect(1, 2));
            Checks.argument(x, "a crashed one suspects itself", () -> x.suspect(1, 1));
            Checks.argument(x, "a crashed one suspects one that is alive", () -> x.suspect(1, 3));
            x.crash(0);
            Checks.argument(x, "a crashed one suspects again", () -> x.suspect(0, 1));
            Checks.state(x, "a crashed one suspects", () -> x.suspect(0, 2));
        }
    }
}
