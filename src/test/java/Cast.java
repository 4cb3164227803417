import java.util.ArrayList;
import java.util.List;
import java.util.function.ToIntFunction;

/**
 * An object of OrderedCast as the tests use it. It counts its calls, as nothing is promised after the 512th,
 * and keeps them: twins that got the same calls are asked for all there is without using up this one's.
 */
final class Cast {
    static final int MOST_CALLS = 512;

    private final int nodes;
    private final int engine;
    private final OrderedCast object;
    private final List<ToIntFunction<OrderedCast>> calls = new ArrayList<>();

    Cast(int nodes, int engine) {
        this.nodes = nodes;
        this.engine = engine;
        this.object = new OrderedCast(nodes, engine);
    }

    int say(int node, int text) {
        return call(x -> x.say(node, text));
    }

    int hello(int node) {
        return call(x -> x.hello(node));
    }

    int deliver(int from, int to) {
        return call(x -> x.deliver(from, to));
    }

    int lose(int from, int to) {
        return call(x -> x.lose(from, to));
    }

    void crash(int node) {
        call(x -> {
            x.crash(node);
            return 0;
        });
    }

    int suspect(int node, int other) {
        return call(x -> x.suspect(node, other));
    }

    int heard(int node) {
        return call(x -> x.heard(node));
    }

    int at(int node, int k) {
        return call(x -> x.at(node, k));
    }

    int shared(int node, int other) {
        return call(x -> x.shared(node, other));
    }

    int thing(int thing, int what) {
        return call(x -> x.thing(thing, what));
    }

    int flying(int from, int to) {
        return call(x -> x.flying(from, to));
    }

    int packet(int from, int to, int k, int what) {
        return call(x -> x.packet(from, to, k, what));
    }

    int told(int node, int what) {
        return call(x -> x.told(node, what));
    }

    void clear() {
        call(x -> {
            x.clear();
            return 0;
        });
    }

    /** A packet that no run of calls brings upon a line. It counts as a call, so that twins get it too. */
    void put(int from, int to, int kind, int view, int place, int thing) {
        call(x -> {
            Inside.put(x, from, to, kind, view, place, thing);
            return 0;
        });
    }

    /** STATE or NEW that no run of calls brings upon a line. */
    void putLog(int from, int to, int kind, int view, int... entries) {
        call(x -> {
            Inside.putLog(x, from, to, kind, view, entries);
            return 0;
        });
    }

    /** The leader of the view before crashes; all behind it suspect that, and settle in this view by STATE and NEW. */
    void goToView(int view, int nodes) {
        crash(view - 1);
        for (int node = view; node < nodes; node++) {
            suspect(node, view - 1);
        }
        for (int node = view + 1; node < nodes; node++) {
            deliver(node, view);
        }
        for (int node = view + 1; node < nodes; node++) {
            deliver(view, node);
        }
    }

    int calls() {
        return calls.size();
    }

    /** Another object that got the same calls, also those that threw. */
    Cast twin() {
        Cast twin = new Cast(nodes, engine);
        for (ToIntFunction<OrderedCast> call : calls) {
            twin.repeat(call);
        }
        return twin;
    }

    /** All that can be asked of this object as it is now. */
    String whole() {
        return new Whole(this).text();
    }

    private void repeat(ToIntFunction<OrderedCast> call) {
        try {
            call(call);
        } catch (RuntimeException refused) {
            // It threw the first time too; what it left behind is what the twin is asked for.
        }
    }

    private int call(ToIntFunction<OrderedCast> call) {
        if (calls.size() == MOST_CALLS) {
            throw new AssertionError("a test uses an object for more than " + MOST_CALLS + " calls");
        }
        calls.add(call);
        return call.applyAsInt(object);
    }
}
