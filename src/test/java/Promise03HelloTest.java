/** Promise 3: hello. */
public final class Promise03HelloTest {
    public static void main(String[] args) {
        Cast x = new Cast(3, 1);
        Checks.due("hello", x.hello(1), 1);
        Checks.due("hello", x.hello(1), 2);
        for (int to = 0; to < 3; to += 2) {
            Checks.due("flying", x.flying(1, to), 2);
            Checks.packet(x, 1, to, 0, OrderedCast.HELLO, 1, OrderedCast.NONE, OrderedCast.NONE);
            Checks.packet(x, 1, to, 1, OrderedCast.HELLO, 2, OrderedCast.NONE, OrderedCast.NONE);
        }
        x.deliver(1, 0);
        Checks.due("hello behind another's", x.hello(0), 3);
        x.say(0, 9);
        Checks.due("hello behind a thing", x.hello(0), 5);
        refusals();
        Checks.end("promise 3");
    }

    private static void refusals() {
        Cast x = new Cast(3, 1);
        x.crash(0);
        Checks.bounds(x, "hello of -1", () -> x.hello(-1));
        Checks.bounds(x, "hello of 3", () -> x.hello(3));
        Checks.state(x, "hello of a crashed one", () -> x.hello(0));
        Checks.due("nothing flies", x.flying(0, 1), 0);
        Cast y = new Cast(3, 0);
        Checks.state(y, "hello by numbers", () -> y.hello(0));
        Checks.bounds(y, "hello of no node by numbers", () -> y.hello(3));
        Checks.due("nothing flies", y.flying(0, 1), 0);
        Checks.told(y, 0, 1, 0, 1, 0, 0, 0);
    }
}
