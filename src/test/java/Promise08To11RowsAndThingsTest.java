/** Promises 8 (heard), 9 (at), 10 (shared) and 11 (thing). */
public final class Promise08To11RowsAndThingsTest {
    public static void main(String[] args) {
        heardAndAt();
        atRefusals();
        sharedRows();
        differentRows();
        things();
        Checks.end("promises 8 to 11");
    }

    private static void heardAndAt() {
        Cast x = new Cast(3, 0);
        x.say(1, 1);
        x.say(0, 2);
        x.deliver(1, 0);
        Checks.due("heard", x.heard(0), 2);
        Checks.due("heard", x.heard(1), 0);
        Checks.due("at", x.at(0, 0), 1);
        Checks.due("at", x.at(0, 1), 0);
        x.crash(0);
        Checks.due("heard of a crashed one", x.heard(0), 2);
        Checks.due("at of a crashed one", x.at(0, 1), 0);
        Checks.bounds(x, "heard of -1", () -> x.heard(-1));
        Checks.bounds(x, "heard of 3", () -> x.heard(3));
    }

    private static void atRefusals() {
        Cast x = new Cast(2, 0);
        Checks.bounds(x, "at of nothing", () -> x.at(0, 0));
        x.say(0, 1);
        Checks.bounds(x, "at -1", () -> x.at(0, -1));
        Checks.bounds(x, "at 1", () -> x.at(0, 1));
        Checks.bounds(x, "at of what is only said", () -> x.at(1, 0));
        Checks.bounds(x, "at of node -1", () -> x.at(-1, 0));
        Checks.bounds(x, "at of node 2", () -> x.at(2, 0));
        Checks.bounds(x, "at the greatest", () -> x.at(0, Integer.MAX_VALUE));
    }

    private static void sharedRows() {
        Cast x = new Cast(3, 0);
        Checks.due("shared nothing", x.shared(0, 1), 0);
        for (int i = 0; i < 3; i++) {
            x.say(0, i);
        }
        x.deliver(0, 1);
        x.deliver(0, 1);
        Checks.due("shared", x.shared(0, 1), 2);
        Checks.due("shared", x.shared(1, 0), 2);
        Checks.due("shared with oneself", x.shared(0, 0), 3);
        Checks.due("shared with one that heard nothing", x.shared(2, 0), 0);
        Checks.bounds(x, "shared of 3", () -> x.shared(3, 0));
        Checks.bounds(x, "shared with 3", () -> x.shared(0, 3));
        Checks.bounds(x, "shared with -1", () -> x.shared(0, -1));
    }

    private static void differentRows() {
        Cast x = new Cast(3, 1);
        x.say(2, 1);
        x.deliver(2, 0);
        x.deliver(2, 1);
        x.say(2, 2);
        x.crash(2);
        x.hello(1);
        x.deliver(1, 0);
        x.suspect(0, 2);
        x.suspect(1, 2);
        Checks.row(x, 0, 0);
        x.say(0, 3);
        x.deliver(0, 1);
        Checks.due("heard", x.heard(1), 2);
        x.deliver(2, 0);
        Checks.row(x, 0, 0, 1);
        Checks.row(x, 1, 0, 2);
        Checks.due("shared up to the first other one", x.shared(0, 1), 1);
        x.hello(1);
        x.deliver(1, 0);
        x.deliver(2, 1);
        Checks.row(x, 0, 0, 1, 2);
        Checks.row(x, 1, 0, 2, 1);
        Checks.due("shared up to the first other one", x.shared(0, 1), 1);
    }

    private static void things() {
        Cast x = new Cast(3, 0);
        x.say(2, Integer.MIN_VALUE);
        x.say(1, Integer.MAX_VALUE);
        Checks.due("speaker", x.thing(0, 0), 2);
        Checks.due("text", x.thing(0, 1), Integer.MIN_VALUE);
        Checks.due("time by numbers", x.thing(0, 2), 0);
        Checks.due("speaker", x.thing(1, 0), 1);
        Checks.due("text", x.thing(1, 1), Integer.MAX_VALUE);
        Checks.bounds(x, "thing -1", () -> x.thing(-1, 0));
        Checks.bounds(x, "thing 2", () -> x.thing(2, 0));
        Checks.bounds(x, "thing 2 and what 3", () -> x.thing(2, 3));
        Checks.argument(x, "what 3", () -> x.thing(0, 3));
        Checks.argument(x, "what -1", () -> x.thing(0, -1));
        Cast y = new Cast(3, 1);
        y.hello(0);
        y.say(0, 5);
        y.say(1, 6);
        Checks.due("time", y.thing(0, 2), 2);
        Checks.due("time", y.thing(1, 2), 1);
        y.deliver(0, 1);
        Checks.due("time stays", y.thing(1, 2), 1);
    }
}
