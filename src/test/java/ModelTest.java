import java.util.ArrayList;
import java.util.HashSet;
import java.util.List;
import java.util.function.IntSupplier;

/**
 * Random runs of 512 calls, each answer against the Model's, in several kinds of weather; and what the
 * document says of the engines as a whole. The runs are the same each time: the seed is the run's number.
 */
public final class ModelTest {
    private static final int RUNS = 4000;
    private static final int CALLS = 512;
    private static final int LAST_LOOK = 150;

    private long seed;
    private final OrderedCast x;
    private final Model model;
    private final int engine;
    private final int weather;
    private final List<String> calls = new ArrayList<>();
    private boolean wrong = false;
    private boolean mayDiffer = false;

    private ModelTest(int run) {
        seed = run * 7919L + 1;
        for (int i = 0; i < 5; i++) {
            random(2);
        }
        int nodes = random(5) == 0 ? random(12) - 3 : 2 + random(4);
        engine = random(2);
        weather = random(4);
        x = new OrderedCast(nodes, engine);
        model = new Model(nodes, engine);
        calls.add("new OrderedCast(" + nodes + ", " + engine + ")");
    }

    public static void main(String[] args) {
        int runs = args.length > 1 ? Integer.parseInt(args[1]) : RUNS;
        int bad = 0;
        for (int run = 0; run < runs && bad < 3; run++) {
            ModelTest test = new ModelTest(run);
            test.goOn();
            Checks.due("run " + run, test.wrong ? 1 : 0, 0);
            bad += test.wrong ? 1 : 0;
        }
        Checks.end("random runs");
    }

    private int random(int below) {
        seed = seed * 6364136223846793005L + 1442695040888963407L;
        return (int) ((seed >>> 33) % below);
    }

    /** Mostly a node there is, seldom one beside. */
    private int node() {
        return random(60) == 0 ? random(9) - 2 : random(model.count);
    }

    private int what(int answers) {
        return random(50) == 0 ? random(9) - 2 : random(answers);
    }

    private void goOn() {
        int sure = 0;
        for (int i = 0; i < CALLS && !wrong; i++) {
            if (i >= CALLS - LAST_LOOK && sure < model.count * (7 + model.count)) {
                askNext(sure);
                sure++;
            } else if (i >= CALLS - LAST_LOOK || random(3) == 0) {
                ask();
            } else {
                act();
            }
            mayDiffer |= engine == 1 && (model.suspectsFlying() || model.hasFullLine());
            wholeOrder();
        }
    }

    private void act() {
        int a = node();
        int b = node();
        int dice = random(100);
        if (dice < (weather == 1 ? 40 : 20)) {
            int text = random(1000) - 500;
            same("say(" + a + ", " + text + ")", () -> x.say(a, text), () -> model.say(a, text));
        } else if (dice < 28 && engine == 1) {
            same("hello(" + a + ")", () -> x.hello(a), () -> model.hello(a));
        } else if (dice < 80) {
            same("deliver(" + a + ", " + b + ")", () -> x.deliver(a, b), () -> model.deliver(a, b));
        } else if (dice < (weather == 2 ? 92 : 85)) {
            same("lose(" + a + ", " + b + ")", () -> x.lose(a, b), () -> model.lose(a, b));
        } else if (dice < 97) {
            same("suspect(" + a + ", " + b + ")", () -> x.suspect(a, b), () -> model.suspect(a, b));
        } else if (dice < 98 || weather == 3) {
            same("crash(" + a + ")", () -> none(() -> x.crash(a)), () -> none(() -> model.crash(a)));
        } else if (random(20) == 0) {
            same("clear()", () -> none(x::clear), () -> none(model::clear));
            mayDiffer = false;
        } else {
            same("hello(" + a + ")", () -> x.hello(a), () -> model.hello(a));
        }
    }

    /** Of each node what it tells, how many things it heard, and what flies from it to each node. */
    private void askNext(int number) {
        int a = number % model.count;
        int question = number / model.count;
        if (question < 6) {
            same("told(" + a + ", " + question + ")", () -> x.told(a, question), () -> model.told(a, question));
        } else if (question == 6) {
            same("heard(" + a + ")", () -> x.heard(a), () -> model.heard(a));
        } else {
            int b = question - 7;
            same("flying(" + a + ", " + b + ")", () -> x.flying(a, b), () -> model.flying(a, b));
        }
    }

    private void ask() {
        int a = node();
        int b = node();
        int what = what(6);
        int k = random(random(3) == 0 ? 64 : 12) - 1;
        switch (random(8)) {
            case 0 -> same("heard(" + a + ")", () -> x.heard(a), () -> model.heard(a));
            case 1 -> same("at(" + a + ", " + k + ")", () -> x.at(a, k), () -> model.at(a, k));
            case 2 -> same("shared(" + a + ", " + b + ")", () -> x.shared(a, b), () -> model.shared(a, b));
            case 3 -> same("thing(" + k + ", " + what + ")", () -> x.thing(k, what), () -> model.thing(k, what));
            case 4 -> same("flying(" + a + ", " + b + ")", () -> x.flying(a, b), () -> model.flying(a, b));
            case 5, 6 -> same("packet(" + a + ", " + b + ", " + k + ", " + what + ")",
                    () -> x.packet(a, b, k, what), () -> model.packet(a, b, k, what));
            default -> same("told(" + a + ", " + what + ")", () -> x.told(a, what), () -> model.told(a, what));
        }
    }

    private static int none(Runnable run) {
        run.run();
        return 0;
    }

    private void same(String call, IntSupplier program, IntSupplier due) {
        String got = answer(program);
        String want = answer(due);
        calls.add(call + " = " + got);
        if (!got.equals(want)) {
            fail("due is " + want);
        }
    }

    private static String answer(IntSupplier call) {
        try {
            return Integer.toString(call.getAsInt());
        } catch (IndexOutOfBoundsException e) {
            return "IndexOutOfBounds";
        } catch (UnsupportedOperationException e) {
            return "UnsupportedOperation";
        } catch (IllegalArgumentException e) {
            return "IllegalArgument";
        } catch (IllegalStateException e) {
            return "IllegalState";
        }
    }

    /**
     * In one order, and nothing twice: by numbers those that do not crash, by clocks as long as nobody is
     * suspected from whom something still flies, and nothing is lost on a full line.
     */
    private void wholeOrder() {
        for (int a = 0; a < model.count && !mayDiffer; a++) {
            HashSet<Integer> once = new HashSet<>();
            for (int k = 0; k < model.heard(a); k++) {
                if (!once.add(model.at(a, k))) {
                    fail("node " + a + " heard a thing twice");
                }
            }
            for (int b = 0; b < a; b++) {
                int shorter = Math.min(model.heard(a), model.heard(b));
                boolean bound = engine == 1 || model.isAlive(a) && model.isAlive(b);
                if (bound && model.shared(a, b) < shorter) {
                    fail("nodes " + b + " and " + a + " hear in other orders");
                }
            }
        }
    }

    private void fail(String reason) {
        if (!wrong) {
            wrong = true;
            System.out.println(String.join("; ", calls) + ": " + reason);
        }
    }
}
