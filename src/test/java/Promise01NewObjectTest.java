/** Promise 1: a new object. */
public final class Promise01NewObjectTest {
    public static void main(String[] args) {
        constants();
        numbersOfNodes();
        engines();
        nothingWasSaid();
        Checks.end("promise 1");
    }

    private static void constants() {
        Checks.due("NONE", OrderedCast.NONE, -1);
        Checks.due("ASK", OrderedCast.ASK, 0);
        Checks.due("ORDER", OrderedCast.ORDER, 1);
        Checks.due("HOLE", OrderedCast.HOLE, 2);
        Checks.due("WANT", OrderedCast.WANT, 3);
        Checks.due("STATE", OrderedCast.STATE, 4);
        Checks.due("NEW", OrderedCast.NEW, 5);
        Checks.due("SAID", OrderedCast.SAID, 6);
        Checks.due("HELLO", OrderedCast.HELLO, 7);
    }

    private static void numbersOfNodes() {
        int[] asked = {Integer.MIN_VALUE, -1, 0, 1, 2, 3, 4, 5, 6, Integer.MAX_VALUE};
        int[] due = {2, 2, 2, 2, 2, 3, 4, 5, 5, 5};
        for (int engine = 0; engine < 2; engine++) {
            for (int i = 0; i < asked.length; i++) {
                Checks.due("nodes of " + asked[i], Checks.countNodes(new Cast(asked[i], engine)), due[i]);
            }
        }
    }

    private static void engines() {
        Cast x = new Cast(3, 0);
        Checks.state(x, "hello by numbers", () -> x.hello(0));
        for (int engine : new int[] {1, 2, -1, Integer.MIN_VALUE, Integer.MAX_VALUE}) {
            Checks.due("hello by engine " + engine, new Cast(3, engine).hello(0), 1);
        }
    }

    private static void nothingWasSaid() {
        for (int engine = 0; engine < 2; engine++) {
            Cast x = new Cast(5, engine);
            for (int node = 0; node < 5; node++) {
                Checks.told(x, node, 1, 0, 1, 0, 0, 0);
                Checks.due("heard", x.heard(node), 0);
                for (int to = 0; to < 5; to++) {
                    if (to != node) {
                        Checks.due("flying", x.flying(node, to), 0);
                    }
                }
            }
            Checks.bounds(x, "thing 0", () -> x.thing(0, 0));
        }
    }
}
