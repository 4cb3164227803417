/**
 * What each call refuses, by both engines: the last case that is allowed, the first that is not, and which of
 * several exceptions comes first ("Of several that a call names, the first one"). Checks looks after each of
 * these calls whether all is as it was: "A call that throws changes nothing".
 */
public final class EdgeRefusalsTest {
    private static final int NODES = 4;
    private static final int[] NO_NODES = {Integer.MIN_VALUE, -1, NODES, NODES + 1, Integer.MAX_VALUE};
    private static final int THINGS = 6;

    public static void main(String[] args) {
        for (int engine = 0; engine < 2; engine++) {
            say(engine);
            hello(engine);
            deliver(engine);
            lose(engine);
            crash(engine);
            suspect(engine);
            heard(engine);
            at(engine);
            shared(engine);
            thing(engine);
            flying(engine);
            packetsNodes(engine);
            packetsNumbers(engine);
            told(engine);
            manyRefusalsChangeNothing(engine);
        }
        Checks.end("edges: refusals");
    }

    /** Nodes 1 and 2 have crashed, 0 suspects 1; six things, three of each of 0 and 3; packets fly between both. */
    private static Cast cast(int engine) {
        Cast x = new Cast(NODES, engine);
        for (int i = 0; i < THINGS; i++) {
            x.say(i % 2 * 3, i);
        }
        x.deliver(0, 3);
        x.deliver(3, 0);
        x.crash(1);
        x.crash(2);
        x.suspect(0, 1);
        return x;
    }

    /** "IndexOutOfBounds", "IllegalState", "UnsupportedOperation", in that order. */
    private static void say(int engine) {
        Cast x = cast(engine);
        for (int none : NO_NODES) {
            Checks.bounds(x, "say of node " + none, () -> x.say(none, 0));
        }
        Checks.state(x, "say of a crashed one", () -> x.say(1, 0));
        for (int i = THINGS; i < 60; i++) {
            Checks.due("say of the last node", x.say(NODES - 1, i), i);
        }
        for (int none : NO_NODES) {
            Checks.bounds(x, "thing 60 of node " + none, () -> x.say(none, 0));
        }
        Checks.state(x, "thing 60 of a crashed one", () -> x.say(1, 0));
        Checks.unsupported(x, "thing 60", () -> x.say(0, 0));
        Checks.unsupported(x, "thing 60", () -> x.say(3, 0));
    }

    /** "IllegalState: also by numbers": the node that there is not comes first. */
    private static void hello(int engine) {
        Cast x = cast(engine);
        for (int none : NO_NODES) {
            Checks.bounds(x, "hello of node " + none, () -> x.hello(none));
        }
        Checks.state(x, "hello of a crashed one", () -> x.hello(1));
        Checks.state(x, "hello of a crashed one", () -> x.hello(2));
        if (engine == 0) {
            Checks.state(x, "hello by numbers", () -> x.hello(0));
            Checks.state(x, "hello by numbers", () -> x.hello(3));
        } else {
            Checks.due("hello of the last node", x.hello(3), x.told(3, 1));
        }
    }

    private static void deliver(int engine) {
        Cast x = cast(engine);
        for (int none : NO_NODES) {
            Checks.bounds(x, "deliver from " + none, () -> x.deliver(none, 0));
            Checks.bounds(x, "deliver to " + none, () -> x.deliver(0, none));
            Checks.bounds(x, "deliver to a crashed one from " + none, () -> x.deliver(none, 1));
            Checks.bounds(x, "deliver from and to " + none, () -> x.deliver(none, none));
        }
        for (int i = 0; i < NODES; i++) {
            int node = i;
            Checks.argument(x, "deliver to oneself", () -> x.deliver(node, node));
        }
    }

    /** By clocks the order is: no node, the same node, and then that it is by clocks. */
    private static void lose(int engine) {
        Cast x = cast(engine);
        for (int none : NO_NODES) {
            Checks.bounds(x, "lose from " + none, () -> x.lose(none, 0));
            Checks.bounds(x, "lose to " + none, () -> x.lose(0, none));
            Checks.bounds(x, "lose from and to " + none, () -> x.lose(none, none));
        }
        for (int i = 0; i < NODES; i++) {
            int node = i;
            Checks.argument(x, "lose to oneself", () -> x.lose(node, node));
        }
        if (engine == 0) {
            Checks.due("lose on a line with packets", x.lose(0, 3), 2);
            Checks.due("lose on an empty line", x.lose(1, 2), OrderedCast.NONE);
        } else {
            Checks.state(x, "lose on a line with packets", () -> x.lose(0, 3));
            Checks.state(x, "lose on a line to a crashed one", () -> x.lose(0, 1));
            Checks.state(x, "lose on an empty line", () -> x.lose(1, 2));
        }
    }

    private static void crash(int engine) {
        Cast x = cast(engine);
        for (int none : NO_NODES) {
            Checks.bounds(x, "crash of node " + none, () -> x.crash(none));
        }
        Checks.state(x, "crash of a crashed one", () -> x.crash(1));
        x.crash(NODES - 1);
        Checks.state(x, "crash of the last node again", () -> x.crash(NODES - 1));
        x.crash(0);
        for (int i = 0; i < NODES; i++) {
            int node = i;
            Checks.state(x, "crash when all have crashed", () -> x.crash(node));
        }
    }

    /** "both are the same, or the other one is alive, or suspected already", and only then that the node has crashed. */
    private static void suspect(int engine) {
        Cast x = cast(engine);
        for (int none : NO_NODES) {
            Checks.bounds(x, "suspect by " + none, () -> x.suspect(none, 1));
            Checks.bounds(x, "suspect of " + none, () -> x.suspect(0, none));
            Checks.bounds(x, "a crashed one suspects " + none, () -> x.suspect(1, none));
            Checks.bounds(x, "suspect by itself " + none, () -> x.suspect(none, none));
        }
        Checks.argument(x, "suspect oneself", () -> x.suspect(0, 0));
        Checks.argument(x, "suspect one that is alive", () -> x.suspect(0, 3));
        Checks.argument(x, "suspect one that is suspected", () -> x.suspect(0, 1));
        Checks.argument(x, "a crashed one suspects itself", () -> x.suspect(1, 1));
        Checks.argument(x, "a crashed one suspects one that is alive", () -> x.suspect(1, 3));
        Checks.state(x, "a crashed one suspects a crashed one", () -> x.suspect(1, 2));
        Checks.state(x, "a crashed one suspects a crashed one", () -> x.suspect(2, 1));
        x.suspect(0, 2);
        Checks.argument(x, "suspect the other one again", () -> x.suspect(0, 2));
        x.suspect(3, 2);
        Checks.told(x, 3, 1);
        Checks.due("what others suspect is not suspected", x.told(3, 5), 1);
        x.crash(0);
        x.crash(3);
        Checks.argument(x, "a crashed one suspects again", () -> x.suspect(0, 1));
        Checks.state(x, "a crashed one suspects another", () -> x.suspect(0, 3));
    }

    private static void heard(int engine) {
        Cast x = cast(engine);
        for (int none : NO_NODES) {
            Checks.bounds(x, "heard of node " + none, () -> x.heard(none));
        }
        for (int node = 0; node < NODES; node++) {
            x.heard(node);
        }
    }

    /** "there is no such .. place": k is one of those heard, from 0 to the last. */
    private static void at(int engine) {
        Cast x = cast(engine);
        x.suspect(0, 2);
        x.deliver(3, 0);
        int heard = x.heard(0);
        Checks.due("something was heard", heard > 0 ? 1 : 0, 1);
        x.at(0, 0);
        x.at(0, heard - 1);
        for (int k : new int[] {Integer.MIN_VALUE, -1, heard, heard + 1, Integer.MAX_VALUE}) {
            Checks.bounds(x, "at " + k, () -> x.at(0, k));
            Checks.bounds(x, "at " + k + " of no node", () -> x.at(NODES, k));
        }
        Checks.bounds(x, "at 0 of one that heard nothing", () -> x.at(1, 0));
        for (int none : NO_NODES) {
            Checks.bounds(x, "at of node " + none, () -> x.at(none, 0));
        }
    }

    private static void shared(int engine) {
        Cast x = cast(engine);
        for (int none : NO_NODES) {
            Checks.bounds(x, "shared of " + none, () -> x.shared(none, 0));
            Checks.bounds(x, "shared with " + none, () -> x.shared(0, none));
            Checks.bounds(x, "shared of a crashed one with " + none, () -> x.shared(1, none));
            Checks.bounds(x, "shared of and with " + none, () -> x.shared(none, none));
        }
        Checks.due("shared of the last with itself", x.shared(3, 3), x.heard(3));
    }

    /** "there is no such .. thing" before "another number is none that is told". */
    private static void thing(int engine) {
        Cast x = cast(engine);
        for (int what = 0; what < 3; what++) {
            x.thing(0, what);
            x.thing(THINGS - 1, what);
        }
        for (int none : new int[] {Integer.MIN_VALUE, -1, THINGS, THINGS + 1, 59, 60, Integer.MAX_VALUE}) {
            Checks.bounds(x, "thing " + none, () -> x.thing(none, 0));
            Checks.bounds(x, "thing " + none + ", what 3", () -> x.thing(none, 3));
        }
        for (int what : new int[] {Integer.MIN_VALUE, -1, 3, 4, Integer.MAX_VALUE}) {
            Checks.argument(x, "thing, what " + what, () -> x.thing(0, what));
            Checks.argument(x, "the last thing, what " + what, () -> x.thing(THINGS - 1, what));
        }
    }

    private static void flying(int engine) {
        Cast x = cast(engine);
        for (int none : NO_NODES) {
            Checks.bounds(x, "flying from " + none, () -> x.flying(none, 0));
            Checks.bounds(x, "flying to " + none, () -> x.flying(0, none));
            Checks.bounds(x, "flying from and to " + none, () -> x.flying(none, none));
        }
        for (int i = 0; i < NODES; i++) {
            int node = i;
            Checks.argument(x, "flying to oneself", () -> x.flying(node, node));
        }
        Checks.due("flying on the last line", x.flying(3, 2), engine == 0 ? 0 : 3);
    }

    private static void packetsNodes(int engine) {
        Cast x = cast(engine);
        for (int none : NO_NODES) {
            Checks.bounds(x, "packet from " + none, () -> x.packet(none, 0, 0, 0));
            Checks.bounds(x, "packet to " + none, () -> x.packet(0, none, 0, 0));
            Checks.bounds(x, "packet from and to " + none, () -> x.packet(none, none, 0, 0));
            Checks.bounds(x, "packet from " + none + ", what 4", () -> x.packet(none, 0, 0, 4));
            Checks.bounds(x, "packet to " + none + ", what -1", () -> x.packet(0, none, 0, -1));
        }
        for (int i = 0; i < NODES; i++) {
            int node = i;
            Checks.bounds(x, "packet to oneself", () -> x.packet(node, node, 0, 0));
            Checks.bounds(x, "packet to oneself, what 4", () -> x.packet(node, node, 0, 4));
        }
    }

    /** "there is no such .. packet": from 0 to the last that flies; and only then what is asked of it. */
    private static void packetsNumbers(int engine) {
        Cast x = cast(engine);
        int flying = x.flying(0, 3);
        Checks.due("flying", flying, engine == 0 ? 3 : 2);
        for (int what = 0; what < 4; what++) {
            x.packet(0, 3, 0, what);
            x.packet(0, 3, flying - 1, what);
        }
        for (int k : new int[] {Integer.MIN_VALUE, -1, flying, flying + 1, 39, 40, Integer.MAX_VALUE}) {
            Checks.bounds(x, "packet " + k, () -> x.packet(0, 3, k, 0));
            Checks.bounds(x, "packet " + k + ", what 4", () -> x.packet(0, 3, k, 4));
            Checks.bounds(x, "packet " + k + " of an empty line", () -> x.packet(1, 2, k, 0));
        }
        for (int what : new int[] {Integer.MIN_VALUE, -1, 4, 5, Integer.MAX_VALUE}) {
            Checks.argument(x, "packet, what " + what, () -> x.packet(0, 3, 0, what));
            Checks.argument(x, "the last packet, what " + what, () -> x.packet(0, 3, flying - 1, what));
        }
    }

    private static void told(int engine) {
        Cast x = cast(engine);
        for (int node = 0; node < NODES; node++) {
            for (int what = 0; what < 6; what++) {
                x.told(node, what);
            }
        }
        for (int what : new int[] {Integer.MIN_VALUE, -1, 6, 7, Integer.MAX_VALUE}) {
            Checks.argument(x, "told, what " + what, () -> x.told(0, what));
            Checks.argument(x, "told of a crashed one, what " + what, () -> x.told(1, what));
            for (int none : NO_NODES) {
                Checks.bounds(x, "told of node " + none + ", what " + what, () -> x.told(none, what));
            }
        }
        for (int none : NO_NODES) {
            Checks.bounds(x, "told of node " + none, () -> x.told(none, 0));
        }
    }

    /** "A call that throws changes nothing": not even what shows only later on. */
    private static void manyRefusalsChangeNothing(int engine) {
        Cast x = cast(engine);
        Cast y = cast(engine);
        for (int step = 0; step < 8; step++) {
            refuse(x, engine);
            goOn(x, step);
            goOn(y, step);
            Checks.due("all after step " + step, x.whole(), y.whole());
        }
    }

    private static void refuse(Cast x, int engine) {
        Runnable[] calls = {() -> x.say(1, 5), () -> x.say(NODES, 5), () -> x.hello(engine == 0 ? 0 : 1),
            () -> x.deliver(0, 0), () -> x.deliver(3, NODES), () -> x.lose(engine == 0 ? 0 : 3, 0), () -> x.crash(1),
            () -> x.suspect(1, 2), () -> x.suspect(3, 0), () -> x.suspect(0, 1), () -> x.thing(60, 0),
            () -> x.packet(3, 0, 40, 0), () -> x.told(3, 6), () -> x.at(0, -1)};
        for (Runnable call : calls) {
            int thrown = 0;
            try {
                call.run();
            } catch (RuntimeException e) {
                thrown = 1;
            }
            Checks.due("the call throws", thrown, 1);
        }
    }

    private static void goOn(Cast x, int step) {
        switch (step) {
            case 0 -> x.deliver(3, 0);
            case 1 -> x.suspect(0, 2);
            case 2 -> x.deliver(0, 3);
            case 3 -> x.say(3, 9);
            case 4 -> x.suspect(3, 2);
            case 5 -> x.suspect(3, 1);
            case 6 -> x.deliver(3, 0);
            default -> x.deliver(0, 3);
        }
    }
}
