import java.lang.reflect.Constructor;
import java.lang.reflect.Field;
import java.lang.reflect.Method;

/**
 * Puts packets on a line that no run of calls brings there, so that what the document says of them is tested too.
 * This is the one place of the tests that knows how the program holds its state.
 */
final class Inside {
    static final int NOTHING = -1;
    static final int GAP = -2;

    private Inside() {
    }

    static void put(OrderedCast x, int from, int to, int kind, int view, int place, int thing) {
        put(x, from, to, new Object[] {kind, view, place, thing, null});
    }

    static void putLog(OrderedCast x, int from, int to, int kind, int view, int... entries) {
        try {
            Class<?> kindOfLog = Class.forName("OrderedCast$Log");
            Constructor<?> make = kindOfLog.getDeclaredConstructor(int.class);
            make.setAccessible(true);
            Object log = make.newInstance(entries.length);
            Method put = kindOfLog.getDeclaredMethod("put", int.class, int.class);
            put.setAccessible(true);
            for (int place = 0; place < entries.length; place++) {
                if (entries[place] != NOTHING) {
                    put.invoke(log, place, entries[place]);
                }
            }
            put(x, from, to, new Object[] {kind, view, entries.length, OrderedCast.NONE, log});
        } catch (ReflectiveOperationException e) {
            throw new AssertionError(e);
        }
    }

    private static void put(OrderedCast x, int from, int to, Object[] packet) {
        try {
            Field room = OrderedCast.class.getDeclaredField("room");
            room.setAccessible(true);
            Method line = room.getType().getDeclaredMethod("line", int.class, int.class);
            line.setAccessible(true);
            Method put = line.getReturnType().getDeclaredMethod("put", int.class, int.class, int.class, int.class,
                    Class.forName("OrderedCast$Log"));
            put.setAccessible(true);
            put.invoke(line.invoke(room.get(x), from, to), packet);
        } catch (ReflectiveOperationException e) {
            throw new AssertionError(e);
        }
    }
}
