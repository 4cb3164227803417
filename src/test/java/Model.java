import java.util.ArrayDeque;
import java.util.ArrayList;
import java.util.Comparator;
import java.util.List;
import java.util.Map;
import java.util.TreeMap;
import java.util.TreeSet;

/** The document written a second time, as plainly as can be and with other means than the program's. */
final class Model {
    private static final int HOLE = -2;

    private record Packet(int kind, int stage, int place, int thing, TreeMap<Integer, Integer> log) {
    }

    private record Thing(int number, int speaker, int text, int time) {
    }

    private static final class Node {
        boolean alive = true;
        boolean settled = true;
        int view;
        int clock;
        int next;
        final TreeSet<Integer> suspects = new TreeSet<>();
        final List<Integer> row = new ArrayList<>();
        TreeMap<Integer, Integer> log = new TreeMap<>();
        final TreeMap<Integer, TreeMap<Integer, Integer>> states = new TreeMap<>();
        final List<Thing> has = new ArrayList<>();
        final TreeMap<Integer, Integer> latest = new TreeMap<>();
    }

    final int count;
    private final boolean clocks;
    private final List<Thing> things = new ArrayList<>();
    private final List<Node> nodes = new ArrayList<>();
    private final List<List<ArrayDeque<Packet>>> lines = new ArrayList<>();

    Model(int asked, int engine) {
        count = asked < 2 ? 2 : asked > 5 ? 5 : asked;
        clocks = engine != 0;
        clear();
    }

    void clear() {
        things.clear();
        nodes.clear();
        lines.clear();
        for (int i = 0; i < count; i++) {
            nodes.add(new Node());
            lines.add(new ArrayList<>());
            for (int j = 0; j < count; j++) {
                lines.get(i).add(new ArrayDeque<>());
            }
        }
    }

    int say(int node, int text) {
        Node n = node(node);
        alive(n);
        if (things.size() == 60) {
            throw new UnsupportedOperationException();
        }
        if (clocks) {
            n.clock++;
        }
        Thing said = new Thing(things.size(), node, text, n.clock);
        things.add(said);
        if (clocks) {
            n.has.add(said);
            toOthers(node, new Packet(OrderedCast.SAID, n.clock, -1, said.number, null));
            hearByClock(node);
        } else if (n.settled) {
            if (n.view % count == node) {
                number(node, said.number);
                hearLog(n);
            } else {
                put(node, n.view % count, new Packet(OrderedCast.ASK, n.view, -1, said.number, null));
            }
        }
        return said.number;
    }

    int hello(int node) {
        Node n = node(node);
        alive(n);
        if (!clocks) {
            throw new IllegalStateException();
        }
        n.clock++;
        toOthers(node, new Packet(OrderedCast.HELLO, n.clock, -1, -1, null));
        return n.clock;
    }

    int deliver(int from, int to) {
        Packet p = line(from, to).poll();
        if (p == null) {
            return -1;
        }
        Node n = nodes.get(to);
        int before = n.row.size();
        if (n.alive && clocks) {
            n.clock = 1 + (n.clock > p.stage ? n.clock : p.stage);
            n.latest.put(from, p.stage);
            if (p.kind == OrderedCast.SAID) {
                n.has.add(things.get(p.thing));
            }
            hearByClock(to);
        } else if (n.alive) {
            comes(from, to, p);
            hearLog(n);
        }
        return n.row.size() - before;
    }

    int lose(int from, int to) {
        ArrayDeque<Packet> line = line(from, to);
        if (clocks) {
            throw new IllegalStateException();
        }
        return line.poll() == null ? -1 : line.size();
    }

    void crash(int node) {
        Node n = node(node);
        alive(n);
        n.alive = false;
    }

    int suspect(int node, int other) {
        Node n = node(node);
        Node o = node(other);
        if (node == other || o.alive || n.suspects.contains(other)) {
            throw new IllegalArgumentException();
        }
        alive(n);
        int before = n.row.size();
        n.suspects.add(other);
        if (clocks) {
            hearByClock(node);
            return n.row.size() - before;
        }
        if (n.view % count == other) {
            n.settled = false;
            do {
                n.view++;
            } while (n.suspects.contains(n.view % count));
            n.states.clear();
            if (n.view % count == node) {
                n.states.put(node, new TreeMap<>(n.log));
            } else {
                put(node, n.view % count, new Packet(OrderedCast.STATE, n.view, places(n.log), -1, new TreeMap<>(n.log)));
            }
        }
        enough(node);
        hearLog(n);
        return n.row.size() - before;
    }

    int heard(int node) {
        return node(node).row.size();
    }

    int at(int node, int k) {
        return node(node).row.get(k);
    }

    int shared(int node, int other) {
        List<Integer> a = node(node).row;
        List<Integer> b = node(other).row;
        int same = 0;
        while (same < a.size() && same < b.size() && a.get(same).intValue() == b.get(same)) {
            same++;
        }
        return same;
    }

    int thing(int thing, int what) {
        Thing t = things.get(thing);
        return pick(what, t.speaker, t.text, t.time);
    }

    int flying(int from, int to) {
        return line(from, to).size();
    }

    int packet(int from, int to, int k, int what) {
        node(from);
        node(to);
        Packet p = new ArrayList<>(lines.get(from).get(to)).get(k);
        return pick(what, p.kind, p.stage, p.place, p.thing);
    }

    int told(int node, int what) {
        Node n = node(node);
        return pick(what, n.alive ? 1 : 0, clocks ? n.clock : n.view, n.settled ? 1 : 0, places(n.log),
                clocks ? 0 : open(node).size(), n.suspects.size());
    }

    boolean suspectsFlying() {
        for (int i = 0; i < count; i++) {
            for (int other : nodes.get(i).suspects) {
                if (!lines.get(other).get(i).isEmpty()) {
                    return true;
                }
            }
        }
        return false;
    }

    boolean hasFullLine() {
        return lines.stream().anyMatch(row -> row.stream().anyMatch(line -> line.size() >= 40));
    }

    boolean isAlive(int node) {
        return nodes.get(node).alive;
    }

    private static int pick(int what, int... answers) {
        if (what < 0 || what >= answers.length) {
            throw new IllegalArgumentException();
        }
        return answers[what];
    }

    private Node node(int node) {
        return nodes.get(node);
    }

    private static void alive(Node n) {
        if (!n.alive) {
            throw new IllegalStateException();
        }
    }

    private ArrayDeque<Packet> line(int from, int to) {
        ArrayDeque<Packet> line = lines.get(from).get(to);
        if (from == to) {
            throw new IllegalArgumentException();
        }
        return line;
    }

    private void put(int from, int to, Packet p) {
        if (lines.get(from).get(to).size() < 40) {
            lines.get(from).get(to).add(p);
        }
    }

    private void toOthers(int from, Packet p) {
        for (int to = 0; to < count; to++) {
            if (to != from) {
                put(from, to, p);
            }
        }
    }

    private static int places(TreeMap<Integer, Integer> log) {
        return log.isEmpty() ? 0 : log.lastKey() + 1;
    }

    private List<Integer> open(int node) {
        List<Integer> open = new ArrayList<>();
        for (Thing t : things) {
            if (t.speaker == node && !nodes.get(node).log.containsValue(t.number)) {
                open.add(t.number);
            }
        }
        return open;
    }

    private void number(int node, int thing) {
        Node n = nodes.get(node);
        int place = places(n.log);
        n.log.put(place, thing);
        toOthers(node, new Packet(OrderedCast.ORDER, n.view, place, thing, null));
    }

    private void hearLog(Node n) {
        for (; n.log.containsKey(n.next); n.next++) {
            if (n.log.get(n.next) != HOLE) {
                n.row.add(n.log.get(n.next));
            }
        }
    }

    private void comes(int from, int to, Packet p) {
        Node n = nodes.get(to);
        boolean leads = n.view % count == to;
        boolean own = n.settled && p.stage == n.view;
        if (p.kind == OrderedCast.ASK && own && leads && !n.log.containsValue(p.thing)) {
            number(to, p.thing);
        }
        if ((p.kind == OrderedCast.ORDER || p.kind == OrderedCast.HOLE) && own) {
            n.log.putIfAbsent(p.place, p.kind == OrderedCast.HOLE ? HOLE : p.thing);
            for (int place = 0; place < p.place; place++) {
                if (!n.log.containsKey(place)) {
                    put(to, n.view % count, new Packet(OrderedCast.WANT, n.view, place, -1, null));
                    break;
                }
            }
        }
        if (p.kind == OrderedCast.WANT && own && leads && n.log.containsKey(p.place)) {
            int entry = n.log.get(p.place);
            put(to, from, entry == HOLE ? new Packet(OrderedCast.HOLE, n.view, p.place, -1, null)
                    : new Packet(OrderedCast.ORDER, n.view, p.place, entry, null));
        }
        if (p.kind == OrderedCast.STATE) {
            stateComes(from, to, p);
        }
        if (p.kind == OrderedCast.NEW && (p.stage > n.view || p.stage == n.view && !n.settled)) {
            n.view = p.stage;
            n.log = new TreeMap<>(p.log);
            n.settled = true;
            for (int thing : open(to)) {
                put(to, n.view % count, new Packet(OrderedCast.ASK, n.view, -1, thing, null));
            }
        }
    }

    private void stateComes(int from, int to, Packet p) {
        Node n = nodes.get(to);
        if (p.stage > n.view && p.stage % count == to) {
            n.view = p.stage;
            n.settled = false;
            n.states.clear();
            n.states.put(to, new TreeMap<>(n.log));
        }
        if (p.stage == n.view && n.view % count == to) {
            if (n.settled) {
                put(to, from, new Packet(OrderedCast.NEW, n.view, places(n.log), -1, new TreeMap<>(n.log)));
            }
            n.states.put(from, p.log);
            enough(to);
        }
    }

    private void enough(int node) {
        Node n = nodes.get(node);
        for (int i = 0; i < count; i++) {
            if (n.settled || n.view % count != node || !n.suspects.contains(i) && !n.states.containsKey(i)) {
                return;
            }
        }
        TreeMap<Integer, Integer> joined = new TreeMap<>();
        for (TreeMap<Integer, Integer> state : n.states.values()) {
            for (int place = 0; place < places(state); place++) {
                joined.putIfAbsent(place, HOLE);
            }
            for (Map.Entry<Integer, Integer> entry : state.entrySet()) {
                if (entry.getValue() != HOLE) {
                    joined.put(entry.getKey(), entry.getValue());
                }
            }
        }
        n.log = joined;
        n.settled = true;
        toOthers(node, new Packet(OrderedCast.NEW, n.view, places(joined), -1, new TreeMap<>(joined)));
        for (int thing : open(node)) {
            number(node, thing);
        }
    }

    private void hearByClock(int node) {
        Node n = nodes.get(node);
        while (!n.has.isEmpty()) {
            n.has.sort(Comparator.comparingInt(Thing::time).thenComparingInt(Thing::speaker));
            Thing least = n.has.get(0);
            for (int i = 0; i < count; i++) {
                if (i == node || i == least.speaker || n.suspects.contains(i)) {
                    continue;
                }
                int latest = n.latest.getOrDefault(i, 0);
                if (latest < least.time || latest == least.time && i < least.speaker) {
                    return;
                }
            }
            n.row.add(least.number);
            n.has.remove(0);
        }
    }
}
