/** Promise 4: deliver, and what each kind of packet does. */
public final class Promise04DeliverTest {
    public static void main(String[] args) {
        asks();
        askOfAnotherView();
        ordersAndWants();
        wantOfAnotherView();
        statesAndNew();
        stateMovesALeader();
        stateWhenSettled();
        joining();
        newViewOpensAgain();
        ordersThatArePassedOver();
        newOfAnOldView();
        clocks();
        latestHeardIsTheTimeThatCame();
        equalTimes();
        crashedOnes();
        fullLines();
        refusals();
        Checks.end("promise 4");
    }

    private static void asks() {
        Cast x = new Cast(3, 0);
        x.say(1, 5);
        x.say(0, 6);
        Checks.due("ASK", x.deliver(1, 0), 1);
        Checks.row(x, 0, 1, 0);
        for (int to = 1; to < 3; to++) {
            Checks.packet(x, 0, to, 1, OrderedCast.ORDER, 0, 1, 0);
        }
        Checks.due("ORDER", x.deliver(0, 1), 1);
        Checks.due("ORDER", x.deliver(0, 1), 1);
        Checks.row(x, 1, 1, 0);
        Checks.told(x, 1, 1, 0, 1, 2, 0, 0);
        Checks.due("nothing", x.deliver(0, 1), OrderedCast.NONE);
        Checks.due("shared", x.shared(0, 1), 2);
    }

    private static void askOfAnotherView() {
        Cast x = new Cast(3, 0);
        x.say(2, 5);
        x.crash(0);
        x.suspect(1, 0);
        x.suspect(2, 0);
        x.deliver(2, 1);
        x.deliver(1, 2);
        Checks.packet(x, 2, 1, 0, OrderedCast.ASK, 1, OrderedCast.NONE, 0);
        Checks.due("ASK of the new view", x.deliver(2, 1), 1);
        Checks.row(x, 1, 0);
    }

    private static void ordersAndWants() {
        Cast x = new Cast(2, 0);
        for (int i = 0; i < 4; i++) {
            x.say(0, i);
        }
        x.lose(0, 1);
        x.lose(0, 1);
        Checks.due("ORDER behind a gap", x.deliver(0, 1), 0);
        Checks.told(x, 1, 1, 0, 1, 3, 0, 0);
        Checks.packet(x, 1, 0, 0, OrderedCast.WANT, 0, 0, OrderedCast.NONE);
        Checks.due("ORDER behind a gap", x.deliver(0, 1), 0);
        Checks.packet(x, 1, 0, 1, OrderedCast.WANT, 0, 0, OrderedCast.NONE);
        Checks.due("WANT", x.deliver(1, 0), 0);
        Checks.due("WANT", x.deliver(1, 0), 0);
        Checks.due("flying", x.flying(0, 1), 2);
        Checks.packet(x, 0, 1, 0, OrderedCast.ORDER, 0, 0, 0);
        Checks.due("the first again", x.deliver(0, 1), 1);
        Checks.due("the first once more", x.deliver(0, 1), 0);
        Checks.due("no WANT without a later one", x.flying(1, 0), 0);
        x.say(0, 9);
        Checks.due("ORDER behind a gap", x.deliver(0, 1), 0);
        Checks.packet(x, 1, 0, 0, OrderedCast.WANT, 0, 1, OrderedCast.NONE);
        x.deliver(1, 0);
        Checks.due("the gap filled: all of them", x.deliver(0, 1), 4);
        Checks.row(x, 1, 0, 1, 2, 3, 4);
    }

    private static void wantOfAnotherView() {
        Cast x = new Cast(3, 0);
        x.say(0, 1);
        x.say(0, 2);
        x.lose(0, 2);
        x.crash(0);
        x.deliver(0, 2);
        Checks.packet(x, 2, 0, 0, OrderedCast.WANT, 0, 0, OrderedCast.NONE);
        Checks.due("WANT to a crashed one", x.deliver(2, 0), 0);
        Checks.due("nothing comes back", x.flying(0, 2), 0);
    }

    private static void statesAndNew() {
        Cast x = new Cast(3, 0);
        x.say(0, 1);
        x.say(0, 2);
        x.lose(0, 2);
        x.deliver(0, 2);
        x.lose(2, 0);
        x.crash(0);
        x.suspect(2, 0);
        Checks.packet(x, 2, 1, 0, OrderedCast.STATE, 1, 2, OrderedCast.NONE);
        x.suspect(1, 0);
        x.say(1, 3);
        Checks.due("STATE: the log is joined", x.deliver(2, 1), 2);
        Checks.row(x, 1, 1, 2);
        Checks.told(x, 1, 1, 1, 1, 3, 0, 1);
        Checks.packet(x, 1, 2, 0, OrderedCast.NEW, 1, 2, OrderedCast.NONE);
        Checks.packet(x, 1, 2, 1, OrderedCast.ORDER, 1, 2, 2);
        Checks.packet(x, 1, 0, 0, OrderedCast.NEW, 1, 2, OrderedCast.NONE);
        Checks.due("NEW: the hole is passed over", x.deliver(1, 2), 1);
        Checks.row(x, 2, 1);
        Checks.told(x, 2, 1, 1, 1, 2, 0, 1);
        Checks.due("ORDER of the new view", x.deliver(1, 2), 1);
        // What the crashed leader sent in its own view is passed over now.
        Checks.due("ORDER of the old view", x.deliver(0, 1), 0);
        Checks.row(x, 1, 1, 2);
        Checks.row(x, 2, 1, 2);
    }

    private static void stateMovesALeader() {
        Cast x = new Cast(3, 0);
        x.crash(0);
        x.suspect(2, 0);
        Checks.due("STATE of a higher view", x.deliver(2, 1), 0);
        Checks.told(x, 1, 1, 1, 0, 0, 0, 0);
        Checks.due("nothing flies yet", x.flying(1, 2), 0);
        Checks.due("enough when 0 is suspected", x.suspect(1, 0), 0);
        Checks.told(x, 1, 1, 1, 1, 0, 0, 1);
        Checks.packet(x, 1, 2, 0, OrderedCast.NEW, 1, 0, OrderedCast.NONE);
    }

    private static void stateWhenSettled() {
        Cast x = new Cast(4, 0);
        x.crash(0);
        x.suspect(3, 0);
        x.crash(3);
        x.suspect(2, 0);
        x.suspect(1, 0);
        x.deliver(2, 1);
        Checks.told(x, 1, 1, 1, 0, 0, 0, 1);
        x.suspect(1, 3);
        Checks.told(x, 1, 1, 1, 1, 0, 0, 2);
        x.say(1, 8);
        Checks.due("flying", x.flying(1, 3), 2);
        Checks.due("STATE when settled", x.deliver(3, 1), 0);
        Checks.due("flying", x.flying(1, 3), 3);
        Checks.packet(x, 1, 3, 2, OrderedCast.NEW, 1, 1, OrderedCast.NONE);
        Checks.packet(x, 1, 2, 0, OrderedCast.NEW, 1, 0, OrderedCast.NONE);
        Checks.due("no other NEW", x.flying(1, 2), 2);
    }

    /** A STATE that came before its node crashed counts in the join, also when that node is suspected. */
    private static void joining() {
        Cast x = new Cast(4, 0);
        for (int i = 0; i < 3; i++) {
            x.say(0, i);
        }
        x.lose(0, 3);
        x.lose(0, 3);
        x.deliver(0, 3);
        x.deliver(0, 2);
        x.crash(0);
        x.suspect(3, 0);
        x.deliver(3, 1);
        x.crash(3);
        x.suspect(1, 0);
        x.suspect(2, 0);
        x.suspect(1, 3);
        Checks.told(x, 1, 1, 1, 0, 0, 0, 2);
        Checks.due("STATE", x.deliver(2, 1), 2);
        Checks.row(x, 1, 0, 2);
        Checks.told(x, 1, 1, 1, 1, 3, 0, 2);
        x.deliver(1, 2);
        Checks.row(x, 2, 0, 2);
    }

    private static void newViewOpensAgain() {
        Cast x = new Cast(3, 0);
        x.say(2, 1);
        x.say(2, 2);
        x.deliver(2, 0);
        x.deliver(2, 0);
        x.crash(0);
        x.suspect(1, 0);
        x.suspect(2, 0);
        x.deliver(2, 1);
        x.deliver(1, 2);
        Checks.told(x, 2, 1, 1, 1, 0, 2, 1);
        Checks.packet(x, 2, 1, 0, OrderedCast.ASK, 1, OrderedCast.NONE, 0);
        Checks.packet(x, 2, 1, 1, OrderedCast.ASK, 1, OrderedCast.NONE, 1);
        Checks.due("ASK", x.deliver(2, 1), 1);
        Checks.due("ASK", x.deliver(2, 1), 1);
        Checks.due("ORDER", x.deliver(1, 2), 1);
        Checks.told(x, 2, 1, 1, 1, 1, 1, 1);
        Checks.due("ORDER", x.deliver(1, 2), 1);
        Checks.row(x, 2, 0, 1);
    }

    /** ORDER of an old view, and ORDER that comes to a node that is not settled, as its NEW was lost. */
    private static void ordersThatArePassedOver() {
        Cast x = new Cast(3, 0);
        x.say(0, 1);
        x.crash(0);
        x.suspect(1, 0);
        x.suspect(2, 0);
        x.deliver(2, 1);
        x.say(1, 2);
        Checks.row(x, 1, 1);
        Checks.due("not settled: ORDER of the old view", x.deliver(0, 2), 0);
        x.lose(1, 2);
        Checks.packet(x, 1, 2, 0, OrderedCast.ORDER, 1, 0, 1);
        Checks.due("not settled: ORDER of its view", x.deliver(1, 2), 0);
        Checks.told(x, 2, 1, 1, 0, 0, 0, 1);
        Cast y = new Cast(3, 0);
        y.say(0, 1);
        y.crash(0);
        y.suspect(1, 0);
        y.suspect(2, 0);
        y.deliver(2, 1);
        y.deliver(1, 2);
        Checks.told(y, 2, 1, 1, 1, 0, 0, 1);
        Checks.due("settled: ORDER of the old view", y.deliver(0, 2), 0);
        Checks.due("settled: ORDER of the old view", y.deliver(0, 1), 0);
        Checks.told(y, 1, 1, 1, 1, 0, 0, 1);
        Checks.told(y, 2, 1, 1, 1, 0, 0, 1);
        Checks.due("no WANT", y.flying(2, 1), 0);
    }

    private static void newOfAnOldView() {
        Cast x = new Cast(4, 0);
        x.crash(0);
        x.suspect(1, 0);
        x.suspect(2, 0);
        x.suspect(3, 0);
        x.deliver(2, 1);
        x.deliver(3, 1);
        Checks.packet(x, 1, 3, 0, OrderedCast.NEW, 1, 0, OrderedCast.NONE);
        x.crash(1);
        x.suspect(3, 1);
        Checks.due("NEW of the old view", x.deliver(1, 3), 0);
        Checks.told(x, 3, 1, 2, 0, 0, 0, 2);
        x.suspect(2, 1);
        x.deliver(3, 2);
        Checks.told(x, 2, 1, 2, 1, 0, 0, 2);
        Checks.due("NEW of the old view, settled", x.deliver(1, 2), 0);
        Checks.told(x, 2, 1, 2, 1, 0, 0, 2);
        x.deliver(2, 3);
        Checks.told(x, 3, 1, 2, 1, 0, 0, 2);
    }

    private static void clocks() {
        Cast x = new Cast(3, 1);
        x.say(0, 5);
        Checks.due("SAID", x.deliver(0, 1), 0);
        Checks.told(x, 1, 1, 2, 1, 0, 0, 0);
        x.hello(2);
        x.hello(2);
        Checks.due("an early HELLO: the same time of a greater node", x.deliver(2, 1), 1);
        Checks.told(x, 1, 1, 3, 1, 0, 0, 0);
        Checks.due("HELLO", x.deliver(2, 0), 0);
        x.hello(1);
        Checks.due("HELLO of the last", x.deliver(1, 0), 1);
        Checks.told(x, 0, 1, 5, 1, 0, 0, 0);
        Checks.row(x, 0, 0);
        Checks.row(x, 1, 0);
    }

    private static void latestHeardIsTheTimeThatCame() {
        Cast x = new Cast(3, 1);
        x.say(1, 1);
        x.hello(2);
        x.hello(2);
        x.deliver(2, 1);
        x.deliver(2, 1);
        x.hello(0);
        Checks.due("time 1 of node 0 is not later than time 1 of node 1", x.deliver(0, 1), 0);
        x.hello(0);
        Checks.due("time 2 is", x.deliver(0, 1), 1);
    }

    private static void equalTimes() {
        Cast x = new Cast(3, 1);
        x.say(2, 1);
        x.say(1, 2);
        x.say(0, 3);
        x.deliver(1, 2);
        x.deliver(0, 2);
        x.hello(0);
        x.hello(1);
        x.deliver(0, 2);
        Checks.row(x, 2, 2, 1);
        Checks.due("HELLO", x.deliver(1, 2), 1);
        Checks.row(x, 2, 2, 1, 0);
    }

    private static void crashedOnes() {
        for (int engine = 0; engine < 2; engine++) {
            Cast x = new Cast(2, engine);
            x.say(0, 1);
            x.crash(1);
            Checks.due("flying", x.flying(0, 1), 1);
            Checks.due("to a crashed one", x.deliver(0, 1), 0);
            Checks.due("it is gone", x.flying(0, 1), 0);
            Checks.due("no more", x.deliver(0, 1), OrderedCast.NONE);
            Checks.due("heard", x.heard(1), 0);
            Checks.told(x, 1, 0, 0, 1, 0, 0, 0);
            x.say(0, 2);
            Checks.due("more goes to a crashed one", x.flying(0, 1), 1);
            Cast y = new Cast(2, engine);
            y.say(0, 1);
            y.crash(0);
            Checks.due("from a crashed one", y.deliver(0, 1), 1);
        }
    }

    private static void fullLines() {
        for (int engine = 0; engine < 2; engine++) {
            Cast x = new Cast(2, engine);
            for (int i = 0; i < 41; i++) {
                x.say(0, i);
            }
            Checks.due("flying", x.flying(0, 1), 40);
            for (int i = 0; i < 40; i++) {
                Checks.packet(x, 0, 1, 0, engine == 0 ? OrderedCast.ORDER : OrderedCast.SAID);
                Checks.due("the packets' order", x.packet(0, 1, 0, 3), i);
                Checks.due("deliver", x.deliver(0, 1), 1);
            }
            Checks.due("the last is lost", x.deliver(0, 1), OrderedCast.NONE);
            Checks.due("heard", x.heard(1), 40);
        }
    }

    private static void refusals() {
        for (int engine = 0; engine < 2; engine++) {
            Cast x = new Cast(3, engine);
            x.say(0, 1);
            Checks.bounds(x, "deliver from -1", () -> x.deliver(-1, 0));
            Checks.bounds(x, "deliver from 3", () -> x.deliver(3, 3));
            Checks.bounds(x, "deliver to 3", () -> x.deliver(0, 3));
            Checks.bounds(x, "deliver to -1", () -> x.deliver(0, -1));
            Checks.argument(x, "deliver to oneself", () -> x.deliver(0, 0));
        }
    }
}
