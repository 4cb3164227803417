import java.util.ArrayList;
import java.util.List;

/** Counts the answers that are not the ones that are due, and the helpers that several tests need. */
final class Checks {
    private static int checks = 0;
    private static int wrong = 0;

    private Checks() {
    }

    static void due(String call, long got, long want) {
        checks++;
        if (got != want) {
            wrong++;
            System.out.println(call + " answered " + got + ", due is " + want);
        }
    }

    static void due(String call, Object got, Object want) {
        checks++;
        if (!want.equals(got)) {
            wrong++;
            System.out.println(call + " answered " + got + ", due is " + want);
        }
    }

    static void bounds(Cast x, String call, Runnable run) {
        refused(x, call, IndexOutOfBoundsException.class, run);
    }

    static void argument(Cast x, String call, Runnable run) {
        refused(x, call, IllegalArgumentException.class, run);
    }

    static void state(Cast x, String call, Runnable run) {
        refused(x, call, IllegalStateException.class, run);
    }

    static void unsupported(Cast x, String call, Runnable run) {
        refused(x, call, UnsupportedOperationException.class, run);
    }

    /** It throws just that, and a call that throws changes nothing. */
    private static void refused(Cast x, String call, Class<? extends RuntimeException> kind, Runnable run) {
        String before = x.whole();
        Object got = "nothing";
        try {
            run.run();
        } catch (RuntimeException e) {
            got = e.getClass();
        }
        due(call + " throws", got, kind);
        due("all after " + call, x.whole(), before);
    }

    /** All things that a node heard, in order. */
    static void row(Cast x, int node, int... things) {
        List<Integer> want = new ArrayList<>();
        for (int one : things) {
            want.add(one);
        }
        List<Integer> got = new ArrayList<>();
        for (int k = 0; k < x.heard(node); k++) {
            got.add(x.at(node, k));
        }
        due("the row of node " + node, got, want);
    }

    /** Alive, view or clock, settled, places, open, suspected. */
    static void told(Cast x, int node, int... answers) {
        for (int what = 0; what < answers.length; what++) {
            due("told(" + node + ", " + what + ")", x.told(node, what), answers[what]);
        }
    }

    /** Kind, view or time, place or places, thing of packet k of a line. */
    static void packet(Cast x, int from, int to, int k, int... answers) {
        for (int what = 0; what < answers.length; what++) {
            due("packet(" + from + ", " + to + ", " + k + ", " + what + ")", x.packet(from, to, k, what), answers[what]);
        }
    }

    static int countNodes(Cast x) {
        int nodes = 0;
        try {
            while (true) {
                x.heard(nodes);
                nodes++;
            }
        } catch (IndexOutOfBoundsException end) {
            return nodes;
        }
    }

    static int countThings(Cast x) {
        int things = 0;
        try {
            while (true) {
                x.thing(things, 0);
                things++;
            }
        } catch (IndexOutOfBoundsException end) {
            return things;
        }
    }

    static void end(String name) {
        System.out.println(name + ": " + checks + " answers, " + wrong + " wrong");
        if (wrong != 0 || checks == 0) {
            System.exit(1);
        }
    }
}
