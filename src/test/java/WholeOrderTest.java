import java.util.ArrayList;
import java.util.Collections;
import java.util.List;
import java.util.TreeSet;

/**
 * The first sentence of the document, as a whole: runs in which calls of all kinds come as they may, no packet is lost
 * and no line is full; then all that flies comes, and crashed nodes are suspected. After that nothing is lost: what was
 * said has been heard, once and in one order. The runs are the same each time: the seed is the run's number.
 */
public final class WholeOrderTest {
    private static final int RUNS = 400;
    private static final int ACTS = 60;
    private static final int MOST_SAID = 8;
    private static final int MOST_SWEEPS = 12;

    private long seed;
    private final int engine;
    private final int nodes;
    private final Cast x;
    private final List<Integer> speakers = new ArrayList<>();
    private final TreeSet<Integer> crashed = new TreeSet<>();
    private final TreeSet<Integer> suspected = new TreeSet<>();

    private WholeOrderTest(int run) {
        seed = run * 104729L + 7;
        engine = run % 2;
        nodes = 2 + run / 2 % 4;
        x = new Cast(nodes, engine);
    }

    public static void main(String[] args) {
        for (int run = 0; run < RUNS; run++) {
            WholeOrderTest test = new WholeOrderTest(run);
            for (int i = 0; i < ACTS; i++) {
                test.act();
            }
            test.allComes();
            test.oneOrder("run " + run);
        }
        Checks.end("whole order");
    }

    private int random(int below) {
        seed = seed * 6364136223846793005L + 1442695040888963407L;
        return (int) ((seed >>> 33) % below);
    }

    private void act() {
        int node = random(nodes);
        int dice = random(100);
        if (dice < 15) {
            say(node);
        } else if (dice < 18) {
            crash(node);
        } else if (dice < 25) {
            suspect(node, random(nodes));
        } else if (dice < 30 && engine == 1 && !crashed.contains(node)) {
            x.hello(node);
        } else {
            deliver(node, random(nodes));
        }
    }

    private void say(int node) {
        if (!crashed.contains(node) && speakers.size() < MOST_SAID) {
            Checks.due("say", x.say(node, random(100)), speakers.size());
            speakers.add(node);
        }
    }

    /** One node at least stays alive. */
    private void crash(int node) {
        if (crashed.size() < nodes - 1 && crashed.add(node)) {
            x.crash(node);
        }
    }

    /** By clocks nobody is suspected from whom something still flies. */
    private void suspect(int node, int other) {
        boolean may = node != other && crashed.contains(other) && !crashed.contains(node);
        if (may && (engine == 0 || x.flying(other, node) == 0) && suspected.add(node * nodes + other)) {
            x.suspect(node, other);
        }
    }

    private void deliver(int from, int to) {
        if (from != to) {
            x.deliver(from, to);
        }
    }

    private void allComes() {
        allPackets();
        for (int node = 0; node < nodes; node++) {
            for (int other : crashed) {
                suspect(node, other);
            }
        }
        for (int node = 0; node < nodes; node++) {
            if (engine == 1 && !crashed.contains(node)) {
                x.hello(node);
            }
        }
        allPackets();
    }

    private void allPackets() {
        boolean some = true;
        for (int i = 0; i < MOST_SWEEPS && some; i++) {
            some = false;
            for (int line = 0; line < nodes * nodes; line++) {
                int from = line / nodes;
                int to = line % nodes;
                while (from != to && x.deliver(from, to) != OrderedCast.NONE) {
                    some = true;
                }
            }
        }
    }

    private void oneOrder(String run) {
        List<Integer> first = null;
        for (int node = 0; node < nodes; node++) {
            if (!crashed.contains(node)) {
                List<Integer> row = row(node);
                first = first == null ? row : first;
                Checks.due(run + ": the row of node " + node, row, first);
                Checks.due(run + ": whether node " + node + " is settled", x.told(node, 2), 1);
                Checks.due(run + ": open things of node " + node, x.told(node, 4), 0);
            } else if (engine == 1) {
                List<Integer> row = row(node);
                Checks.due(run + ": the row of crashed node " + node, row, row(aliveNode()).subList(0, row.size()));
            }
        }
        for (int thing = 0; thing < speakers.size(); thing++) {
            int times = Collections.frequency(first, thing);
            boolean mustBe = engine == 1 || !crashed.contains(speakers.get(thing));
            Checks.due(run + ": thing " + thing + " was heard once", times, mustBe ? 1 : Math.min(times, 1));
        }
    }

    private int aliveNode() {
        int node = 0;
        while (crashed.contains(node)) {
            node++;
        }
        return node;
    }

    private List<Integer> row(int node) {
        List<Integer> row = new ArrayList<>();
        for (int k = x.heard(node); k > 0; k--) {
            row.add(0, x.at(node, k - 1));
        }
        return row;
    }
}
