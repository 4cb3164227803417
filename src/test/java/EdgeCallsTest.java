import java.util.ArrayList;
import java.util.List;
import java.util.function.ToIntFunction;

/** "An object is used for at most 512 calls after it has been made": the 512th answers as the first did. */
public final class EdgeCallsTest {
    private static final int MOST = Cast.MOST_CALLS;

    public static void main(String[] args) {
        for (int engine = 0; engine < 2; engine++) {
            eachCallAsTheLast(engine);
            onlyRefusedOnesBefore(engine);
            clearAsTheLastAndBefore(engine);
            saidAndDelivered(engine);
        }
        clockGoesOn();
        viewsAgainAndAgain();
        Checks.end("edges: calls");
    }

    /** 511 calls, then each call there is; its answer is that of an object which had only those that do something. */
    private static void eachCallAsTheLast(int engine) {
        List<ToIntFunction<Cast>> last = lastCalls(engine);
        for (int i = 0; i < last.size(); i++) {
            Cast x = new Cast(3, engine);
            Cast y = new Cast(3, engine);
            act(x);
            act(y);
            while (x.calls() < MOST - 1) {
                x.told(x.calls() % 3, x.calls() % 6);
            }
            Checks.due("call " + i + " as the 512th", last.get(i).applyAsInt(x), last.get(i).applyAsInt(y));
            Checks.due("calls", x.calls(), MOST);
        }
    }

    private static void act(Cast x) {
        for (int i = 0; i < 9; i++) {
            x.say(i % 3, 10 * i);
            x.deliver(i % 3, (i + 1) % 3);
        }
        x.crash(2);
        x.suspect(1, 2);
    }

    private static List<ToIntFunction<Cast>> lastCalls(int engine) {
        List<ToIntFunction<Cast>> calls = new ArrayList<>();
        calls.add(x -> x.say(1, 7));
        calls.add(x -> x.deliver(1, 0));
        calls.add(x -> x.suspect(0, 2));
        calls.add(x -> x.heard(0));
        calls.add(x -> x.at(engine, 0));
        calls.add(x -> x.shared(0, 1));
        calls.add(x -> x.thing(8, 1));
        calls.add(x -> x.flying(1, 0));
        calls.add(x -> x.packet(1, 0, 0, 3));
        calls.add(x -> x.told(1, 5));
        calls.add(x -> engine == 0 ? x.lose(0, 1) : x.hello(0));
        calls.add(x -> {
            x.crash(1);
            return 0;
        });
        calls.add(x -> {
            x.clear();
            return 0;
        });
        return calls;
    }

    private static void onlyRefusedOnesBefore(int engine) {
        Cast x = new Cast(2, engine);
        Cast y = new Cast(2, engine);
        while (x.calls() < MOST - 2) {
            int refused = 0;
            try {
                x.say(2, 0);
            } catch (IndexOutOfBoundsException e) {
                refused = 1;
            }
            Checks.due("say of no node", refused, 1);
        }
        Checks.due("all", x.whole(), y.whole());
        Checks.due("say as the 511th", x.say(0, 3), 0);
        Checks.due("deliver as the 512th", x.deliver(0, 1), 1);
    }

    private static void clearAsTheLastAndBefore(int engine) {
        Cast x = new Cast(2, engine);
        while (x.calls() < MOST - 6) {
            x.say(0, x.calls());
            x.deliver(0, 1);
            x.clear();
        }
        while (x.calls() < MOST - 3) {
            x.say(1, x.calls());
        }
        x.clear();
        Checks.due("say", x.say(1, 8), 0);
        Checks.due("deliver as the last", x.deliver(1, 0), 1);
    }

    /** 60 things, 60 packets to each of two, and all of it asked for. */
    private static void saidAndDelivered(int engine) {
        Cast x = new Cast(3, engine);
        for (int i = 0; i < 60; i++) {
            x.say(0, i);
            Checks.due("deliver", x.deliver(0, 1), engine == 0 ? 1 : 0);
            x.deliver(0, 2);
        }
        if (engine == 1) {
            x.hello(2);
            Checks.due("HELLO", x.deliver(2, 1), 60);
        }
        for (int k = 0; k < 60; k++) {
            Checks.due("at", x.at(1, k), k);
            Checks.due("text", x.thing(k, 1), k);
            Checks.due("time", x.thing(k, 2), engine == 0 ? 0 : k + 1);
        }
        while (x.calls() < MOST) {
            Checks.due("heard", x.heard(1), 60);
        }
    }

    /** A clock goes up to the number of calls, also when its packets are lost. */
    private static void clockGoesOn() {
        Cast x = new Cast(5, 1);
        for (int i = 1; i <= MOST; i++) {
            Checks.due("hello", x.hello(4), i);
        }
        Cast y = new Cast(2, 1);
        for (int i = 0; i < MOST / 2; i++) {
            Checks.due("hello", y.hello(i % 2), 2 * i + 1);
            Checks.due("HELLO", y.deliver(i % 2, 1 - i % 2), 0);
        }
    }

    /** All views of five nodes again and again, as often as the calls are enough for. */
    private static void viewsAgainAndAgain() {
        Cast x = new Cast(5, 0);
        while (x.calls() <= MOST - 14) {
            Checks.due("say", x.say(4, 1), 0);
            for (int leader = 0; leader < 4; leader++) {
                x.crash(leader);
                Checks.due("suspect", x.suspect(4, leader), leader == 3 ? 1 : 0);
            }
            Checks.told(x, 4, 1, 4, 1, 1);
            x.clear();
        }
    }
}
