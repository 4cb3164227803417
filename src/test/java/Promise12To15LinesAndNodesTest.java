/** Promises 12 (flying), 13 (packet), 14 (told) and 15 (clear). */
public final class Promise12To15LinesAndNodesTest {
    public static void main(String[] args) {
        flying();
        packets();
        packetRefusals();
        logsOfPackets();
        toldByNumbers();
        toldByClocks();
        toldRefusals();
        clearing();
        clearingStates();
        Checks.end("promises 12 to 15");
    }

    private static void flying() {
        Cast x = new Cast(3, 0);
        Checks.due("flying", x.flying(2, 0), 0);
        x.say(2, 1);
        x.say(2, 2);
        Checks.due("flying", x.flying(2, 0), 2);
        Checks.due("flying the other way", x.flying(0, 2), 0);
        x.deliver(2, 0);
        Checks.due("flying", x.flying(2, 0), 1);
        Checks.due("flying", x.flying(0, 2), 1);
        x.crash(0);
        x.crash(2);
        Checks.due("flying between crashed ones", x.flying(2, 0), 1);
        Checks.bounds(x, "flying from -1", () -> x.flying(-1, -1));
        Checks.bounds(x, "flying to 3", () -> x.flying(0, 3));
        Checks.argument(x, "flying to oneself", () -> x.flying(1, 1));
    }

    private static void packets() {
        Cast x = new Cast(3, 0);
        x.say(2, 1);
        x.say(0, 2);
        x.say(0, 3);
        Checks.packet(x, 2, 0, 0, OrderedCast.ASK, 0, OrderedCast.NONE, 0);
        Checks.packet(x, 0, 2, 1, OrderedCast.ORDER, 0, 1, 2);
        x.lose(0, 2);
        x.deliver(0, 2);
        Checks.packet(x, 2, 0, 1, OrderedCast.WANT, 0, 0, OrderedCast.NONE);
        Cast y = new Cast(2, 1);
        y.hello(0);
        y.say(0, 1);
        Checks.packet(y, 0, 1, 0, OrderedCast.HELLO, 1, OrderedCast.NONE, OrderedCast.NONE);
        Checks.packet(y, 0, 1, 1, OrderedCast.SAID, 2, OrderedCast.NONE, 0);
    }

    private static void packetRefusals() {
        Cast x = new Cast(3, 0);
        x.say(0, 1);
        Checks.bounds(x, "packet from 3", () -> x.packet(3, 0, 0, 0));
        Checks.bounds(x, "packet to -1", () -> x.packet(0, -1, 0, 0));
        Checks.bounds(x, "packet 1", () -> x.packet(0, 1, 1, 0));
        Checks.bounds(x, "packet -1", () -> x.packet(0, 1, -1, 0));
        Checks.bounds(x, "packet 1 and what 4", () -> x.packet(0, 1, 1, 4));
        Checks.bounds(x, "packet to oneself", () -> x.packet(1, 1, 0, 0));
        Checks.argument(x, "what 4", () -> x.packet(0, 1, 0, 4));
        Checks.argument(x, "what -1", () -> x.packet(0, 1, 0, -1));
    }

    /** What flies tells the log as it was when it was sent. */
    private static void logsOfPackets() {
        Cast x = new Cast(3, 0);
        for (int i = 0; i < 3; i++) {
            x.say(0, i);
        }
        x.lose(0, 1);
        x.lose(0, 1);
        x.deliver(0, 1);
        x.crash(0);
        x.suspect(1, 0);
        Checks.told(x, 1, 1, 1, 0, 3, 0, 1);
        x.suspect(2, 0);
        Checks.packet(x, 2, 1, 0, OrderedCast.STATE, 1, 0, OrderedCast.NONE);
        Checks.due("STATE", x.deliver(2, 1), 1);
        x.say(1, 7);
        x.say(1, 8);
        Checks.packet(x, 1, 2, 0, OrderedCast.NEW, 1, 3, OrderedCast.NONE);
        Checks.packet(x, 1, 2, 1, OrderedCast.ORDER, 1, 3, 3);
        x.deliver(1, 2);
        Checks.told(x, 2, 1, 1, 1, 3, 0, 1);
        Checks.row(x, 2, 2);
    }

    private static void toldByNumbers() {
        Cast x = new Cast(3, 0);
        x.say(1, 1);
        x.say(1, 2);
        Checks.told(x, 1, 1, 0, 1, 0, 2, 0);
        x.deliver(1, 0);
        x.deliver(1, 0);
        Checks.told(x, 1, 1, 0, 1, 0, 2, 0);
        x.lose(0, 1);
        x.deliver(0, 1);
        Checks.told(x, 1, 1, 0, 1, 2, 1, 0);
        x.crash(0);
        x.suspect(1, 0);
        Checks.told(x, 1, 1, 1, 0, 2, 1, 1);
        Checks.told(x, 0, 0, 0, 1, 2, 0, 0);
        Checks.told(x, 2, 1, 0, 1, 0, 0, 0);
    }

    private static void toldByClocks() {
        Cast x = new Cast(3, 1);
        x.say(1, 1);
        x.hello(1);
        x.crash(0);
        x.crash(2);
        x.suspect(1, 0);
        Checks.told(x, 1, 1, 2, 1, 0, 0, 1);
        x.suspect(1, 2);
        Checks.told(x, 1, 1, 2, 1, 0, 0, 2);
        Checks.told(x, 0, 0, 0, 1, 0, 0, 0);
    }

    private static void toldRefusals() {
        for (int engine = 0; engine < 2; engine++) {
            Cast x = new Cast(3, engine);
            Checks.bounds(x, "told of -1", () -> x.told(-1, 0));
            Checks.bounds(x, "told of 3", () -> x.told(3, 9));
            Checks.argument(x, "what 6", () -> x.told(0, 6));
            Checks.argument(x, "what -1", () -> x.told(0, -1));
        }
    }

    private static void clearing() {
        for (int engine = 0; engine < 2; engine++) {
            Cast x = new Cast(4, engine);
            String first = x.whole();
            x.say(0, 1);
            x.say(1, 2);
            x.deliver(1, 0);
            x.deliver(0, 1);
            x.crash(0);
            x.suspect(1, 0);
            x.suspect(3, 0);
            x.clear();
            Checks.due("after clear", x.whole(), first);
            Checks.due("nodes", Checks.countNodes(x), 4);
            Checks.due("say", x.say(1, 3), 0);
            Checks.due("time", x.thing(0, 2), engine);
            Checks.packet(x, 1, 0, 0, engine == 0 ? OrderedCast.ASK : OrderedCast.SAID, engine, OrderedCast.NONE, 0);
            x.deliver(1, 0);
            Checks.due("heard", x.heard(0), engine == 0 ? 1 : 0);
            x.clear();
            x.clear();
            Checks.due("after clear", x.whole(), first);
        }
    }

    /** What a leader kept of its STATES, and what a clock heard of others, is gone too. */
    private static void clearingStates() {
        Cast x = new Cast(3, 0);
        x.crash(0);
        x.suspect(2, 0);
        x.deliver(2, 1);
        x.clear();
        x.crash(0);
        x.suspect(1, 0);
        Checks.told(x, 1, 1, 1, 0, 0, 0, 1);
        Cast y = new Cast(3, 1);
        for (int i = 0; i < 3; i++) {
            y.hello(1);
            y.deliver(1, 0);
        }
        y.hello(2);
        y.say(0, 4);
        y.clear();
        y.say(0, 5);
        Checks.due("deliver", y.deliver(1, 0), OrderedCast.NONE);
        y.crash(2);
        Checks.due("suspect", y.suspect(0, 2), 0);
        y.clear();
        y.say(1, 6);
        y.hello(2);
        Checks.due("what it had before clear it has no more", y.deliver(2, 0), 0);
        Checks.due("SAID", y.deliver(1, 0), 1);
        Checks.row(y, 0, 0);
    }
}
