import java.util.ArrayList;
import java.util.List;

/** Counts the answers that are not the ones that are due, and the helpers that several tests need. */
final class Checks {
    private static int checks = 0;
    private static int wrong = 0;

    private Checks() {
    }

    static void due(String call, long got, long want) {
        checks++;
        if (got != want) {
            wrong++;
            System.out.println(call + " answered " + got + ", due is " + want);
        }
    }

    static void due(String call, Object got, Object want) {
        checks++;
        if (!want.equals(got)) {
            wrong++;
            System.out.println(call + " answered " + got + ", due is " + want);
        }
    }

    static void bounds(String call, Runnable run) {
        refused(call, IndexOutOfBoundsException.class, run);
    }

    static void argument(String call, Runnable run) {
        refused(call, IllegalArgumentException.class, run);
    }

    static void state(String call, Runnable run) {
        refused(call, IllegalStateException.class, run);
    }

    static void unsupported(String call, Runnable run) {
        refused(call, UnsupportedOperationException.class, run);
    }

    private static void refused(String call, Class<? extends RuntimeException> kind, Runnable run) {
        Object got = "nothing";
        try {
            run.run();
        } catch (RuntimeException e) {
            got = e.getClass();
        }
        due(call + " throws", got, kind);
    }

    /** All things that a node heard, in order. */
    static void row(OrderedCast x, int node, int... things) {
        List<Integer> want = new ArrayList<>();
        for (int one : things) {
            want.add(one);
        }
        List<Integer> got = new ArrayList<>();
        for (int k = 0; k < x.heard(node); k++) {
            got.add(x.at(node, k));
        }
        due("the row of node " + node, got, want);
    }

    /** Alive, view or clock, settled, places, open, suspected. */
    static void told(OrderedCast x, int node, int... answers) {
        for (int what = 0; what < answers.length; what++) {
            due("told(" + node + ", " + what + ")", x.told(node, what), answers[what]);
        }
    }

    /** Kind, view or time, place or places, thing of packet k of a line. */
    static void packet(OrderedCast x, int from, int to, int k, int... answers) {
        for (int what = 0; what < answers.length; what++) {
            due("packet(" + from + ", " + to + ", " + k + ", " + what + ")", x.packet(from, to, k, what), answers[what]);
        }
    }

    /** What can be asked of an object, to see that a call that throws changes nothing. */
    static String all(OrderedCast x) {
        StringBuilder text = new StringBuilder();
        int nodes = countNodes(x);
        for (int node = 0; node < nodes; node++) {
            for (int what = 0; what < 6; what++) {
                text.append(x.told(node, what)).append(' ');
            }
            for (int k = 0; k < x.heard(node); k++) {
                text.append(x.at(node, k)).append(',');
            }
            for (int to = 0; to < nodes; to++) {
                text.append(node == to ? "" : line(x, node, to));
            }
        }
        for (int thing = 0; thing < countThings(x); thing++) {
            text.append(x.thing(thing, 0)).append('/').append(x.thing(thing, 1)).append('/').append(x.thing(thing, 2)).append(' ');
        }
        return text.toString();
    }

    private static String line(OrderedCast x, int from, int to) {
        StringBuilder text = new StringBuilder("[");
        for (int k = 0; k < x.flying(from, to); k++) {
            for (int what = 0; what < 4; what++) {
                text.append(x.packet(from, to, k, what)).append(' ');
            }
        }
        return text.append(']').toString();
    }

    static int countNodes(OrderedCast x) {
        int nodes = 0;
        try {
            while (true) {
                x.heard(nodes);
                nodes++;
            }
        } catch (IndexOutOfBoundsException end) {
            return nodes;
        }
    }

    static int countThings(OrderedCast x) {
        int things = 0;
        try {
            while (true) {
                x.thing(things, 0);
                things++;
            }
        } catch (IndexOutOfBoundsException end) {
            return things;
        }
    }

    static void end(String name) {
        System.out.println(name + ": " + checks + " answers, " + wrong + " wrong");
        if (wrong != 0 || checks == 0) {
            System.exit(1);
        }
    }
}
