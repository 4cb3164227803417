import java.util.Arrays;

/**
 * Nodes that say things to all and hear them in one order: by the numbers that a leader
 * gives (and the next leader, when that one has crashed), or by clocks that go with what is said.
 */
public final class OrderedCast {
    public static final int NONE = -1;
    public static final int ASK = 0, ORDER = 1, HOLE = 2, WANT = 3, STATE = 4, NEW = 5, SAID = 6, HELLO = 7;

    private static final int FEWEST_NODES = 2;
    private static final int MOST_NODES = 5;
    private static final int MOST_THINGS = 60;
    private static final int MOST_FLYING = 40;

    // A view is left only when its leader has crashed, so at most one view a node comes about,
    // and a thing gets at most one place in each: no log can need more than this.
    private static final int MOST_PLACES = MOST_NODES * MOST_THINGS;

    // What a place of a log has when it has no thing.
    private static final int NOTHING = -1;
    private static final int GAP = -2;

    private final boolean byClocks;
    private final Room room;
    private final Node[] nodes;

    public OrderedCast(int nodes, int engine) {
        int count = Math.max(FEWEST_NODES, Math.min(MOST_NODES, nodes));
        this.byClocks = engine != 0;
        this.room = new Room(count);
        this.nodes = new Node[count];
        for (int i = 0; i < count; i++) {
            this.nodes[i] = byClocks ? new ClockNode(i) : new NumberNode(i);
        }
    }

    public int say(int node, int text)
            throws IndexOutOfBoundsException, IllegalStateException, UnsupportedOperationException {
        checkNode(node);
        checkAlive(node);
        if (room.things >= MOST_THINGS) {
            throw new UnsupportedOperationException();
        }
        int added = room.addThing(node, text);
        nodes[node].speak(added, room);
        return added;
    }

    public int hello(int node) throws IndexOutOfBoundsException, IllegalStateException {
        checkNode(node);
        checkAlive(node);
        if (nodes[node] instanceof ClockNode greeter) {
            return greeter.greet(room);
        }
        throw new IllegalStateException();
    }

    public int deliver(int from, int to) throws IndexOutOfBoundsException, IllegalArgumentException {
        checkLine(from, to);
        Line line = room.line(from, to);
        if (line.count == 0) {
            return NONE;
        }
        Packet first = line.takeFirst();
        Node receiver = nodes[to];
        if (!receiver.alive) {
            return 0;
        }
        int before = receiver.rowLength;
        receiver.receive(first, from, room);
        return receiver.rowLength - before;
    }

    public int lose(int from, int to)
            throws IndexOutOfBoundsException, IllegalArgumentException, IllegalStateException {
        checkLine(from, to);
        if (byClocks) {
            throw new IllegalStateException();
        }
        Line line = room.line(from, to);
        if (line.count == 0) {
            return NONE;
        }
        line.takeFirst();
        return line.count;
    }

    public void crash(int node) throws IndexOutOfBoundsException, IllegalStateException {
        checkNode(node);
        checkAlive(node);
        nodes[node].alive = false;
    }

    public int suspect(int node, int other)
            throws IndexOutOfBoundsException, IllegalArgumentException, IllegalStateException {
        checkNode(node);
        checkNode(other);
        Node doubter = nodes[node];
        if (node == other || nodes[other].alive || doubter.doubts(other)) {
            throw new IllegalArgumentException();
        }
        checkAlive(node);
        int before = doubter.rowLength;
        doubter.addDoubt(other);
        doubter.reactToDoubt(other, room);
        return doubter.rowLength - before;
    }

    public int heard(int node) throws IndexOutOfBoundsException {
        checkNode(node);
        return nodes[node].rowLength;
    }

    public int at(int node, int k) throws IndexOutOfBoundsException {
        checkNode(node);
        Node hearer = nodes[node];
        if (k < 0 || k >= hearer.rowLength) {
            throw new IndexOutOfBoundsException();
        }
        return hearer.row[k];
    }

    public int shared(int node, int other) throws IndexOutOfBoundsException {
        checkNode(node);
        checkNode(other);
        Node one = nodes[node];
        Node two = nodes[other];
        int shorter = Math.min(one.rowLength, two.rowLength);
        int same = 0;
        while (same < shorter && one.row[same] == two.row[same]) {
            same++;
        }
        return same;
    }

    public int thing(int thing, int what) throws IndexOutOfBoundsException, IllegalArgumentException {
        if (thing < 0 || thing >= room.things) {
            throw new IndexOutOfBoundsException();
        }
        switch (what) {
            case 0:
                return room.speakers[thing];
            case 1:
                return room.texts[thing];
            case 2:
                return room.times[thing];
            default:
                throw new IllegalArgumentException();
        }
    }

    public int flying(int from, int to) throws IndexOutOfBoundsException, IllegalArgumentException {
        checkLine(from, to);
        return room.line(from, to).count;
    }

    public int packet(int from, int to, int k, int what)
            throws IndexOutOfBoundsException, IllegalArgumentException {
        checkNode(from);
        checkNode(to);
        // A node's line to itself never has a packet, so that asking for one is out of bounds.
        Line line = room.line(from, to);
        if (k < 0 || k >= line.count) {
            throw new IndexOutOfBoundsException();
        }
        Packet found = line.look(k);
        switch (what) {
            case 0:
                return found.kind;
            case 1:
                return found.stage;
            case 2:
                return found.place;
            case 3:
                return found.thing;
            default:
                throw new IllegalArgumentException();
        }
    }

    public int told(int node, int what) throws IndexOutOfBoundsException, IllegalArgumentException {
        checkNode(node);
        Node asked = nodes[node];
        switch (what) {
            case 0:
                return asked.alive ? 1 : 0;
            case 1:
                return asked.stage();
            case 2:
                return asked.isSettled() ? 1 : 0;
            case 3:
                return asked.logLength();
            case 4:
                return asked.countOpen(room);
            case 5:
                return asked.countDoubts();
            default:
                throw new IllegalArgumentException();
        }
    }

    public void clear() {
        room.restart();
        for (int i = 0; i < nodes.length; i++) {
            nodes[i].restart();
        }
    }

    private void checkNode(int node) {
        if (node < 0 || node >= nodes.length) {
            throw new IndexOutOfBoundsException();
        }
    }

    private void checkLine(int from, int to) {
        checkNode(from);
        checkNode(to);
        if (from == to) {
            throw new IllegalArgumentException();
        }
    }

    private void checkAlive(int node) {
        if (!nodes[node].alive) {
            throw new IllegalStateException();
        }
    }

    /** What flies on a line; its stage is a view or, by clocks, a time. */
    private static final class Packet {
        private int kind;
        private int stage;
        private int place;
        private int thing;
        private Log log;
    }

    /** A line from one node to another. Its packets are made once and used in turn. */
    private static final class Line {
        private final Packet[] slots = new Packet[MOST_FLYING];
        private int first;
        private int count;

        private Line() {
            for (int i = 0; i < MOST_FLYING; i++) {
                slots[i] = new Packet();
            }
        }

        private Packet look(int k) {
            return slots[(first + k) % MOST_FLYING];
        }

        private void put(int kind, int stage, int place, int thing, Log log) {
            if (count >= MOST_FLYING) {
                return;
            }
            Packet slot = slots[(first + count) % MOST_FLYING];
            slot.kind = kind;
            slot.stage = stage;
            slot.place = place;
            slot.thing = thing;
            slot.log = log;
            count++;
        }

        /** The packet stays as it is while it is received: its receiver writes only on its own lines. */
        private Packet takeFirst() {
            Packet taken = look(0);
            first = (first + 1) % MOST_FLYING;
            count--;
            return taken;
        }

        private void restart() {
            first = 0;
            count = 0;
        }
    }

    /** What all nodes share: the lines between them, and the things that were said. */
    private static final class Room {
        private final int nodes;
        private final Line[] lines;
        private final int[] speakers = new int[MOST_THINGS];
        private final int[] texts = new int[MOST_THINGS];
        private final int[] times = new int[MOST_THINGS];
        private int things;

        private Room(int nodes) {
            this.nodes = nodes;
            this.lines = new Line[nodes * nodes];
            for (int i = 0; i < lines.length; i++) {
                lines[i] = new Line();
            }
        }

        private Line line(int from, int to) {
            return lines[from * nodes + to];
        }

        private int addThing(int speaker, int text) {
            int added = things;
            speakers[added] = speaker;
            texts[added] = text;
            times[added] = 0;
            things++;
            return added;
        }

        private void send(int from, int to, int kind, int stage, int place, int thing) {
            line(from, to).put(kind, stage, place, thing, null);
        }

        private void sendToOthers(int from, int kind, int stage, int place, int thing) {
            for (int to = 0; to < nodes; to++) {
                if (to != from) {
                    line(from, to).put(kind, stage, place, thing, null);
                }
            }
        }

        /** The log is a copy of the sender's that nobody writes any more, so that several lines may have it. */
        private void sendLog(int from, int to, int kind, int view, Log log) {
            line(from, to).put(kind, view, log.length, NONE, log);
        }

        private void sendLogToOthers(int from, int kind, int view, Log log) {
            for (int to = 0; to < nodes; to++) {
                if (to != from) {
                    line(from, to).put(kind, view, log.length, NONE, log);
                }
            }
        }

        private void restart() {
            things = 0;
            for (int i = 0; i < lines.length; i++) {
                lines[i].restart();
            }
        }
    }

    /** Places that have a thing's number, GAP or NOTHING; the length ends with the last that has something. */
    private static final class Log {
        private final int[] entries;
        private int length;

        private Log(int capacity) {
            entries = new int[capacity];
            Arrays.fill(entries, NOTHING);
        }

        private int entry(int place) {
            return place >= 0 && place < length ? entries[place] : NOTHING;
        }

        private void put(int place, int entry) {
            if (place >= 0 && place < entries.length) {
                entries[place] = entry;
                length = Math.max(length, place + 1);
            }
        }

        private boolean holds(int thing) {
            for (int place = 0; place < length; place++) {
                if (entries[place] == thing) {
                    return true;
                }
            }
            return false;
        }

        private int firstNothing() {
            int place = 0;
            while (place < length && entries[place] != NOTHING) {
                place++;
            }
            return place;
        }

        private Log copy() {
            Log made = new Log(length);
            System.arraycopy(entries, 0, made.entries, 0, length);
            made.length = length;
            return made;
        }

        private void become(Log other) {
            restart();
            for (int place = 0; place < other.length; place++) {
                put(place, other.entries[place]);
            }
        }

        private void restart() {
            Arrays.fill(entries, NOTHING);
            length = 0;
        }
    }

    /** What a node of either engine is: the row of what it heard, and whom it suspects. */
    private abstract static class Node {
        final int number;
        final int[] row = new int[MOST_PLACES];
        int rowLength;
        boolean alive = true;
        // One bit for each node, so that they are counted and forgotten at once.
        private int doubted;

        private Node(int number) {
            this.number = number;
        }

        abstract void speak(int thing, Room room);

        abstract void receive(Packet packet, int from, Room room);

        abstract void reactToDoubt(int other, Room room);

        abstract int stage();

        abstract boolean isSettled();

        abstract int logLength();

        abstract int countOpen(Room room);

        abstract void forget();

        final boolean doubts(int other) {
            return (doubted >> other & 1) == 1;
        }

        final void addDoubt(int other) {
            doubted |= 1 << other;
        }

        final int countDoubts() {
            return Integer.bitCount(doubted);
        }

        final void addToRow(int thing) {
            if (rowLength < row.length) {
                row[rowLength] = thing;
                rowLength++;
            }
        }

        final void restart() {
            rowLength = 0;
            alive = true;
            doubted = 0;
            forget();
        }
    }

    /** A node of the engine BY NUMBERS. */
    private static final class NumberNode extends Node {
        private final Log log = new Log(MOST_PLACES);
        private final Log[] states = new Log[MOST_NODES];
        private int view;
        private boolean settled = true;
        private int nextPlace;

        private NumberNode(int number) {
            super(number);
        }

        void speak(int thing, Room room) {
            if (!settled) {
                return;
            }
            if (leads(room)) {
                giveNumber(thing, room);
                hearLog();
            } else {
                askFor(thing, room);
            }
        }

        void receive(Packet packet, int from, Room room) {
            switch (packet.kind) {
                case ASK:
                    takeAsk(packet, room);
                    break;
                case ORDER:
                    takeOrder(packet, packet.thing, room);
                    break;
                case HOLE:
                    takeOrder(packet, GAP, room);
                    break;
                case WANT:
                    takeWant(packet, from, room);
                    break;
                case STATE:
                    takeState(packet, from, room);
                    break;
                case NEW:
                    takeNew(packet, room);
                    break;
                default:
                    break;
            }
            hearLog();
        }

        void reactToDoubt(int other, Room room) {
            if (other == leader(room)) {
                int next = view + 1;
                for (int i = 0; i < room.nodes && doubts(next % room.nodes); i++) {
                    next++;
                }
                goToView(next, room);
            }
            settleIfReady(room);
            hearLog();
        }

        int stage() {
            return view;
        }

        boolean isSettled() {
            return settled;
        }

        int logLength() {
            return log.length;
        }

        int countOpen(Room room) {
            int open = 0;
            for (int thing = 0; thing < room.things; thing++) {
                if (isOpen(thing, room)) {
                    open++;
                }
            }
            return open;
        }

        void forget() {
            log.restart();
            forgetStates();
            view = 0;
            settled = true;
            nextPlace = 0;
        }

        private int leader(Room room) {
            return view % room.nodes;
        }

        private boolean leads(Room room) {
            return leader(room) == number;
        }

        private boolean isOpen(int thing, Room room) {
            return room.speakers[thing] == number && !log.holds(thing);
        }

        private void forgetStates() {
            for (int i = 0; i < states.length; i++) {
                states[i] = null;
            }
        }

        private void hearLog() {
            while (nextPlace < log.length && log.entry(nextPlace) != NOTHING) {
                if (log.entry(nextPlace) != GAP) {
                    addToRow(log.entry(nextPlace));
                }
                nextPlace++;
            }
        }

        private void askFor(int thing, Room room) {
            room.send(number, leader(room), ASK, view, NONE, thing);
        }

        private void giveNumber(int thing, Room room) {
            int place = log.length;
            log.put(place, thing);
            room.sendToOthers(number, ORDER, view, place, thing);
        }

        private void takeAsk(Packet packet, Room room) {
            if (isLeaderOf(packet.stage, room) && !log.holds(packet.thing)) {
                giveNumber(packet.thing, room);
            }
        }

        private boolean isLeaderOf(int askedView, Room room) {
            return settled && askedView == view && leads(room);
        }

        private void takeOrder(Packet packet, int entry, Room room) {
            if (!settled || packet.stage != view) {
                return;
            }
            if (log.entry(packet.place) == NOTHING) {
                log.put(packet.place, entry);
            }
            int missing = log.firstNothing();
            if (missing < packet.place) {
                room.send(number, leader(room), WANT, view, missing, NONE);
            }
        }

        private void takeWant(Packet packet, int from, Room room) {
            if (!isLeaderOf(packet.stage, room)) {
                return;
            }
            int entry = log.entry(packet.place);
            if (entry == GAP) {
                room.send(number, from, HOLE, view, packet.place, NONE);
            } else if (entry != NOTHING) {
                room.send(number, from, ORDER, view, packet.place, entry);
            }
        }

        private void takeState(Packet packet, int from, Room room) {
            if (packet.stage > view && packet.stage % room.nodes == number) {
                goToView(packet.stage, room);
            }
            if (packet.stage != view || !leads(room)) {
                return;
            }
            if (settled) {
                room.sendLog(number, from, NEW, view, log.copy());
            } else {
                states[from] = packet.log;
                settleIfReady(room);
            }
        }

        private void takeNew(Packet packet, Room room) {
            boolean awaited = packet.stage == view && !settled;
            if (packet.log == null || !awaited && packet.stage <= view) {
                return;
            }
            view = packet.stage;
            log.become(packet.log);
            settled = true;
            forgetStates();
            for (int thing = 0; thing < room.things; thing++) {
                if (isOpen(thing, room)) {
                    askFor(thing, room);
                }
            }
        }

        private void goToView(int newView, Room room) {
            view = newView;
            settled = false;
            forgetStates();
            if (leads(room)) {
                states[number] = log.copy();
            } else {
                room.sendLog(number, leader(room), STATE, view, log.copy());
            }
        }

        private void settleIfReady(Room room) {
            if (settled || !leads(room) || !hasEnoughStates(room)) {
                return;
            }
            joinStates();
            settled = true;
            forgetStates();
            room.sendLogToOthers(number, NEW, view, log.copy());
            for (int thing = 0; thing < room.things; thing++) {
                if (isOpen(thing, room)) {
                    giveNumber(thing, room);
                }
            }
        }

        private boolean hasEnoughStates(Room room) {
            for (int i = 0; i < room.nodes; i++) {
                if (states[i] == null && !doubts(i)) {
                    return false;
                }
            }
            return true;
        }

        private void joinStates() {
            int length = 0;
            for (int i = 0; i < states.length; i++) {
                if (states[i] != null) {
                    length = Math.max(length, states[i].length);
                }
            }
            for (int place = 0; place < length; place++) {
                log.put(place, joinedEntry(place));
            }
        }

        private int joinedEntry(int place) {
            for (int i = states.length - 1; i >= 0; i--) {
                if (states[i] != null && states[i].entry(place) >= 0) {
                    return states[i].entry(place);
                }
            }
            return GAP;
        }
    }

    /** A node of the engine BY CLOCKS. */
    private static final class ClockNode extends Node {
        private final int[] latest = new int[MOST_NODES];
        private final boolean[] waiting = new boolean[MOST_THINGS];
        private int clock;

        private ClockNode(int number) {
            super(number);
        }

        void speak(int thing, Room room) {
            clock++;
            room.times[thing] = clock;
            waiting[thing] = true;
            room.sendToOthers(number, SAID, clock, NONE, thing);
            hearWaiting(room);
        }

        private int greet(Room room) {
            clock++;
            room.sendToOthers(number, HELLO, clock, NONE, NONE);
            return clock;
        }

        void receive(Packet packet, int from, Room room) {
            clock = Math.max(clock, packet.stage) + 1;
            latest[from] = packet.stage;
            if (packet.kind == SAID) {
                waiting[packet.thing] = true;
            }
            hearWaiting(room);
        }

        void reactToDoubt(int other, Room room) {
            hearWaiting(room);
        }

        int stage() {
            return clock;
        }

        boolean isSettled() {
            return true;
        }

        int logLength() {
            return 0;
        }

        int countOpen(Room room) {
            return 0;
        }

        void forget() {
            Arrays.fill(latest, 0);
            for (int i = 0; i < waiting.length; i++) {
                waiting[i] = false;
            }
            clock = 0;
        }

        private void hearWaiting(Room room) {
            int earliest = findEarliest(room);
            for (int i = 0; i < MOST_THINGS && earliest != NONE && isReady(earliest, room); i++) {
                waiting[earliest] = false;
                addToRow(earliest);
                earliest = findEarliest(room);
            }
        }

        private int findEarliest(Room room) {
            int earliest = NONE;
            for (int thing = 0; thing < room.things; thing++) {
                if (waiting[thing] && (earliest == NONE || isBefore(thing, earliest, room))) {
                    earliest = thing;
                }
            }
            return earliest;
        }

        private static boolean isBefore(int thing, int other, Room room) {
            return isLater(room.times[other], room.speakers[other], room.times[thing], room.speakers[thing]);
        }

        private static boolean isLater(int time, int node, int thanTime, int thanNode) {
            return time > thanTime || time == thanTime && node > thanNode;
        }

        private boolean isReady(int thing, Room room) {
            int time = room.times[thing];
            int speaker = room.speakers[thing];
            for (int i = 0; i < room.nodes; i++) {
                boolean awaited = i != number && i != speaker && !doubts(i);
                if (awaited && !isLater(latest[i], i, time, speaker)) {
                    return false;
                }
            }
            return true;
        }
    }
}
