/** Promise 5: lose. */
public final class Promise05LoseTest {
    public static void main(String[] args) {
        Cast x = new Cast(3, 0);
        Checks.due("lose of an empty line", x.lose(0, 1), OrderedCast.NONE);
        x.say(0, 1);
        x.say(0, 2);
        x.say(0, 3);
        Checks.due("lose", x.lose(0, 1), 2);
        Checks.due("another line is as it was", x.flying(0, 2), 3);
        Checks.packet(x, 0, 1, 0, OrderedCast.ORDER, 0, 1, 1);
        Checks.due("lose", x.lose(0, 1), 1);
        Checks.due("lose the last", x.lose(0, 1), 0);
        Checks.due("lose of an empty line", x.lose(0, 1), OrderedCast.NONE);
        Checks.due("heard", x.heard(1), 0);
        x.crash(2);
        Checks.due("lose to a crashed one", x.lose(0, 2), 2);
        x.crash(0);
        Checks.due("lose from a crashed one", x.lose(0, 2), 1);
        refusals();
        Checks.end("promise 5");
    }

    private static void refusals() {
        Cast x = new Cast(3, 0);
        x.say(0, 1);
        Checks.bounds(x, "lose from 3", () -> x.lose(3, 0));
        Checks.bounds(x, "lose to -1", () -> x.lose(0, -1));
        Checks.bounds(x, "lose from 3 to 3", () -> x.lose(3, 3));
        Checks.argument(x, "lose to oneself", () -> x.lose(1, 1));
        Cast y = new Cast(3, 1);
        y.hello(0);
        Checks.state(y, "lose by clocks", () -> y.lose(0, 1));
        Checks.state(y, "lose of an empty line by clocks", () -> y.lose(1, 0));
        Checks.argument(y, "lose to oneself by clocks", () -> y.lose(1, 1));
        Checks.bounds(y, "lose of no node by clocks", () -> y.lose(0, 3));
        Checks.due("nothing is lost", y.flying(0, 1), 1);
    }
}
