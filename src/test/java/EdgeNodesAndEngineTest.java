/** The least and the greatest number of nodes, and which number is which engine: "Terms", and promise 1. */
public final class EdgeNodesAndEngineTest {
    private static final int[] NO_NODES_OF_TWO = {Integer.MIN_VALUE, -2, -1, 2, 3, Integer.MAX_VALUE};
    private static final int[] NO_NODES_OF_FIVE = {Integer.MIN_VALUE, -5, -1, 5, 6, Integer.MAX_VALUE};

    public static void main(String[] args) {
        fromTwoToFive();
        fewerAreTwo();
        moreAreFive();
        zeroIsByNumbers();
        anyOtherIsByClocks();
        allAliveAndNothingSaid();
        Checks.end("edges: nodes and engine");
    }

    /** "NODES are 2 .. 5, 0, 1, ..": so many nodes take part, and not one more. */
    private static void fromTwoToFive() {
        for (int engine = 0; engine < 2; engine++) {
            for (int nodes = 2; nodes <= 5; nodes++) {
                Cast x = new Cast(nodes, engine);
                int last = nodes - 1;
                x.say(0, 1);
                Checks.due("to the last node", x.flying(0, last), 1);
                Checks.due("the last node says", x.say(last, 2), 1);
                Checks.due("to the first node", x.flying(last, 0), 1);
                Checks.told(x, last, 1);
                int none = nodes;
                Checks.bounds(x, "told of node " + none, () -> x.told(none, 0));
                Checks.bounds(x, "say of node " + none, () -> x.say(none, 0));
                Checks.bounds(x, "flying to node " + none, () -> x.flying(0, none));
            }
        }
    }

    /** "another number counts as the nearest of these": 1 is the first that is too small. */
    private static void fewerAreTwo() {
        for (int engine = 0; engine < 2; engine++) {
            for (int nodes : new int[] {1, 0, -1, -5, Integer.MIN_VALUE}) {
                countAs(nodes, 2, engine, NO_NODES_OF_TWO);
            }
        }
    }

    /** "another number counts as the nearest of these": 6 is the first that is too large. */
    private static void moreAreFive() {
        for (int engine = 0; engine < 2; engine++) {
            for (int nodes : new int[] {6, 7, 100, Integer.MAX_VALUE}) {
                countAs(nodes, 5, engine, NO_NODES_OF_FIVE);
            }
        }
    }

    private static void countAs(int asked, int nearest, int engine, int[] none) {
        Cast x = new Cast(asked, engine);
        Cast y = new Cast(nearest, engine);
        Checks.due(asked + " nodes at first", x.whole(), y.whole());
        for (int node : none) {
            Checks.bounds(x, "heard of node " + node, () -> x.heard(node));
        }
        play(x, nearest);
        play(y, nearest);
        Checks.due(asked + " nodes after a run", x.whole(), y.whole());
    }

    /** All speak, and one leader after the other crashes, so that a wrong number of nodes is a wrong leader. */
    private static void play(Cast x, int nodes) {
        for (int node = 0; node < nodes; node++) {
            x.say(node, node);
            x.deliver(node, node == 0 ? 1 : 0);
        }
        for (int view = 1; view < nodes; view++) {
            x.goToView(view, nodes);
            x.say(nodes - 1, view);
        }
    }

    /** "the ENGINE is 0 BY NUMBERS": its ASK goes to the leader alone, and nobody has a clock. */
    private static void zeroIsByNumbers() {
        Cast x = new Cast(3, 0);
        x.say(1, 7);
        Checks.packet(x, 1, 0, 0, OrderedCast.ASK, 0, OrderedCast.NONE, 0);
        Checks.due("nothing to another", x.flying(1, 2), 0);
        Checks.told(x, 1, 1, 0, 1, 0, 1, 0);
        Checks.state(x, "hello by numbers", () -> x.hello(1));
        Checks.due("lose by numbers", x.lose(1, 0), 0);
    }

    /** "or 1 BY CLOCKS (any other number is 1)": the nearest to 0 on both sides, and the farthest. */
    private static void anyOtherIsByClocks() {
        for (int engine : new int[] {1, 2, -1, -7, 10, Integer.MIN_VALUE, Integer.MAX_VALUE}) {
            Cast x = new Cast(3, engine);
            x.say(1, 7);
            Checks.packet(x, 1, 0, 0, OrderedCast.SAID, 1, OrderedCast.NONE, 0);
            Checks.packet(x, 1, 2, 0, OrderedCast.SAID, 1, OrderedCast.NONE, 0);
            Checks.told(x, 1, 1, 1, 1, 0, 0, 0);
            Checks.due("hello by clocks", x.hello(1), 2);
            Checks.state(x, "lose by clocks", () -> x.lose(1, 0));
        }
    }

    /** "all alive", "Nothing was said". */
    private static void allAliveAndNothingSaid() {
        for (int engine = 0; engine < 2; engine++) {
            for (int nodes = 2; nodes <= 5; nodes++) {
                Cast x = new Cast(nodes, engine);
                for (int node = 0; node < nodes; node++) {
                    Checks.told(x, node, 1, 0, 1, 0, 0, 0);
                    Checks.row(x, node);
                }
                Checks.bounds(x, "thing 0", () -> x.thing(0, 0));
                Checks.due("things", Checks.countThings(x), 0);
            }
        }
    }
}
