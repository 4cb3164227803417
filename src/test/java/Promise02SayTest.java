/** Promise 2: say. */
public final class Promise02SayTest {
    public static void main(String[] args) {
        byLeader();
        byAnother();
        whenNotSettled();
        byClocks();
        toOneselfAlone();
        refusals();
        Checks.end("promise 2");
    }

    private static void byLeader() {
        Cast x = new Cast(4, 0);
        Checks.due("say", x.say(0, Integer.MIN_VALUE), 0);
        Checks.due("say", x.say(0, 6), 1);
        Checks.row(x, 0, 0, 1);
        Checks.told(x, 0, 1, 0, 1, 2, 0, 0);
        for (int to = 1; to < 4; to++) {
            Checks.due("flying", x.flying(0, to), 2);
            Checks.packet(x, 0, to, 0, OrderedCast.ORDER, 0, 0, 0);
            Checks.packet(x, 0, to, 1, OrderedCast.ORDER, 0, 1, 1);
        }
    }

    private static void byAnother() {
        Cast x = new Cast(3, 0);
        Checks.due("say", x.say(2, 5), 0);
        Checks.row(x, 2);
        Checks.told(x, 2, 1, 0, 1, 0, 1, 0);
        Checks.due("flying to the leader", x.flying(2, 0), 1);
        Checks.due("flying to another", x.flying(2, 1), 0);
        Checks.packet(x, 2, 0, 0, OrderedCast.ASK, 0, OrderedCast.NONE, 0);
    }

    private static void whenNotSettled() {
        Cast x = new Cast(3, 0);
        x.crash(0);
        x.suspect(2, 0);
        Checks.due("say", x.say(2, 5), 0);
        Checks.told(x, 2, 1, 1, 0, 0, 1, 1);
        Checks.due("only STATE flies", x.flying(2, 1), 1);
        x.suspect(1, 0);
        Checks.due("say of the leader to be", x.say(1, 6), 1);
        Checks.told(x, 1, 1, 1, 0, 0, 1, 1);
        Checks.row(x, 1);
        Checks.due("nothing flies", x.flying(1, 2), 0);
    }

    private static void byClocks() {
        Cast x = new Cast(3, 1);
        Checks.due("say", x.say(1, 5), 0);
        Checks.due("say", x.say(1, 6), 1);
        Checks.told(x, 1, 1, 2, 1, 0, 0, 0);
        Checks.due("time", x.thing(0, 2), 1);
        Checks.due("time", x.thing(1, 2), 2);
        for (int to = 0; to < 3; to += 2) {
            Checks.packet(x, 1, to, 0, OrderedCast.SAID, 1, OrderedCast.NONE, 0);
            Checks.packet(x, 1, to, 1, OrderedCast.SAID, 2, OrderedCast.NONE, 1);
        }
        Checks.row(x, 1);
    }

    private static void toOneselfAlone() {
        Cast x = new Cast(2, 1);
        x.crash(1);
        x.say(0, 1);
        Checks.row(x, 0);
        x.suspect(0, 1);
        Checks.row(x, 0, 0);
        x.say(0, 2);
        Checks.row(x, 0, 0, 1);
    }

    private static void refusals() {
        for (int engine = 0; engine < 2; engine++) {
            Cast x = new Cast(3, engine);
            Checks.bounds(x, "say of -1", () -> x.say(-1, 0));
            Checks.bounds(x, "say of 3", () -> x.say(3, 0));
            x.crash(2);
            Checks.state(x, "say of a crashed one", () -> x.say(2, 0));
            for (int i = 0; i < 60; i++) {
                Checks.due("say", x.say(i % 2, i), i);
            }
            Checks.unsupported(x, "thing 60", () -> x.say(0, 0));
            Checks.bounds(x, "thing 60 of no node", () -> x.say(3, 0));
            Checks.state(x, "thing 60 of a crashed one", () -> x.say(2, 0));
        }
    }
}
