import java.util.List;
import java.util.function.Consumer;

/** "All is as at first" (promise 15): after any run, and for any run that comes behind it. */
public final class EdgeClearTest {
    private static final List<Consumer<Cast>> BY_NUMBERS = List.of(
            EdgeClearTest::nothing, EdgeClearTest::allHeard, EdgeClearTest::gaps, EdgeClearTest::statesAreKept,
            EdgeClearTest::holesInTheNextView, EdgeClearTest::fullLines, EdgeClearTest::allSaid, EdgeClearTest::allCrashed);
    private static final List<Consumer<Cast>> BY_CLOCKS = List.of(
            EdgeClearTest::nothing, EdgeClearTest::muchHeard, EdgeClearTest::thingsThatWait, EdgeClearTest::suspectsWait,
            EdgeClearTest::fullLines, EdgeClearTest::allSaid, EdgeClearTest::allCrashed);

    public static void main(String[] args) {
        for (int nodes = 3; nodes <= 5; nodes += 2) {
            afterEach(BY_NUMBERS, nodes, 0);
            afterEach(BY_CLOCKS, nodes, 1);
        }
        numberOfNodesAndEngineStay();
        again();
        Checks.end("edges: clear");
    }

    private static void afterEach(List<Consumer<Cast>> runs, int nodes, int engine) {
        for (int i = 0; i < runs.size(); i++) {
            for (int j = 0; j < runs.size(); j++) {
                Cast x = new Cast(nodes, engine);
                Cast y = new Cast(nodes, engine);
                runs.get(i).accept(x);
                x.clear();
                Checks.due("clear after run " + i, x.whole(), y.whole());
                runs.get(j).accept(x);
                runs.get(j).accept(y);
                Checks.due("run " + j + " behind run " + i, x.whole(), y.whole());
            }
        }
    }

    private static void nothing(Cast x) {
        x.heard(0);
    }

    private static void allHeard(Cast x) {
        for (int i = 0; i < 4; i++) {
            x.say(1, i);
            x.deliver(1, 0);
            x.deliver(0, 1);
            x.deliver(0, 2);
        }
    }

    private static void gaps(Cast x) {
        for (int i = 0; i < 3; i++) {
            x.say(0, i);
        }
        x.lose(0, 1);
        x.deliver(0, 1);
        x.lose(0, 2);
        x.lose(0, 2);
        x.deliver(0, 2);
        x.deliver(1, 0);
        x.deliver(0, 1);
    }

    private static void statesAreKept(Cast x) {
        x.say(2, 4);
        x.crash(0);
        x.suspect(2, 0);
        x.deliver(2, 1);
        x.say(1, 5);
    }

    private static void holesInTheNextView(Cast x) {
        gaps(x);
        x.crash(0);
        x.suspect(1, 0);
        for (int node = 2; node < Checks.countNodes(x); node++) {
            x.suspect(node, 0);
            x.deliver(node, 1);
        }
        x.say(1, 6);
        x.deliver(1, 2);
    }

    private static void fullLines(Cast x) {
        for (int i = 0; i < 50; i++) {
            x.say(0, i);
            x.deliver(0, 2);
        }
        x.deliver(0, 1);
    }

    private static void allSaid(Cast x) {
        for (int i = 0; i < 60; i++) {
            x.say(i % 3, i);
            x.deliver(i % 3, (i + 1) % 3);
        }
    }

    private static void allCrashed(Cast x) {
        x.say(0, 1);
        x.say(1, 2);
        for (int node = 0; node < Checks.countNodes(x); node++) {
            x.crash(node);
        }
        x.deliver(1, 0);
    }

    private static void muchHeard(Cast x) {
        for (int i = 0; i < 5; i++) {
            x.hello(2);
            x.hello(1);
            x.deliver(2, 0);
            x.deliver(1, 0);
        }
        x.say(1, 3);
        x.deliver(1, 0);
    }

    private static void thingsThatWait(Cast x) {
        x.say(0, 1);
        x.say(1, 2);
        x.deliver(1, 0);
        x.deliver(0, 1);
        x.hello(2);
        x.deliver(2, 1);
    }

    private static void suspectsWait(Cast x) {
        x.say(2, 1);
        x.say(0, 2);
        x.crash(2);
        x.suspect(0, 2);
        x.hello(1);
        x.deliver(1, 0);
        x.deliver(2, 0);
    }

    /** As at first: as it was made, not as any object is made. */
    private static void numberOfNodesAndEngineStay() {
        for (int nodes = 2; nodes <= 5; nodes++) {
            Cast x = new Cast(nodes, 0);
            x.clear();
            Checks.due("nodes", Checks.countNodes(x), nodes);
            Checks.state(x, "hello by numbers", () -> x.hello(0));
            Cast y = new Cast(nodes, 1);
            y.clear();
            Checks.due("nodes", Checks.countNodes(y), nodes);
            Checks.due("hello by clocks", y.hello(0), 1);
        }
    }

    /** Whenever it is called: at first, twice, when all have crashed. */
    private static void again() {
        for (int engine = 0; engine < 2; engine++) {
            Cast x = new Cast(4, engine);
            String first = x.whole();
            x.clear();
            Checks.due("clear at first", x.whole(), first);
            for (int i = 0; i < 5; i++) {
                allCrashed(x);
                x.clear();
                x.clear();
                Checks.due("clear twice", x.whole(), first);
                Checks.due("say", x.say(3, i), 0);
            }
        }
    }
}
