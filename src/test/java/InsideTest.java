/**
 * What "Terms" says of packets that no run of calls brings about (NOTES.md tells why): HOLE, views from the number of
 * nodes on, NEW of a view above, two things for one place, and packets of a view that their receiver has left or has
 * not come to. They are put on the lines from inside; all else is asked through the face.
 */
public final class InsideTest {
    private static final int NONE = OrderedCast.NONE;
    private static final int NOTHING = Inside.NOTHING;
    private static final int GAP = Inside.GAP;

    public static void main(String[] args) {
        holeIsTakenAsAnOrder();
        holeOfItsOwnViewBeingSettled();
        wantOfAHole();
        wantOfItsView();
        wantOfAPlaceOfItsLog();
        askOfItsView();
        askOfAThingInTheLog();
        theThingOfTheGreatestNode();
        whatNodeZeroHas();
        aThingRatherThanAHole();
        theLatestStateOfEachNode();
        stateOfAViewAboveThatIsNotItsOwn();
        stateOfAViewAboveThatIsItsOwn();
        stateOfAViewBelow();
        newOfAHigherView();
        newOfAHigherViewNotSettled();
        newWhenSettled();
        leadersGoRound();
        theNextViewGoesRound();
        allElseIsPassedOver();
        Checks.end("inside");
    }

    /** "HOLE (view, place), which is taken as an ORDER of a hole": into the log, if there is nothing there; and WANT. */
    private static void holeIsTakenAsAnOrder() {
        Cast x = new Cast(2, 0);
        for (int i = 0; i < 4; i++) {
            x.say(0, i);
        }
        x.put(0, 1, OrderedCast.HOLE, 0, 1, NONE);
        x.put(0, 1, OrderedCast.HOLE, 0, 0, NONE);
        Checks.packet(x, 0, 1, 4, OrderedCast.HOLE, 0, 1, NONE);
        Checks.due("the thing of place 0", x.deliver(0, 1), 1);
        x.lose(0, 1);
        Checks.due("the thing of place 2", x.deliver(0, 1), 0);
        Checks.due("the thing of place 3", x.deliver(0, 1), 0);
        Checks.due("WANT", x.flying(1, 0), 2);
        Checks.due("the hole of place 1", x.deliver(0, 1), 2);
        Checks.row(x, 1, 0, 2, 3);
        Checks.told(x, 1, 1, 0, 1, 4, 0, 0);
        Checks.due("a hole where a thing is", x.deliver(0, 1), 0);
        Checks.row(x, 1, 0, 2, 3);
        Checks.due("no WANT", x.flying(1, 0), 2);
        x.put(0, 1, OrderedCast.HOLE, 0, 6, NONE);
        Checks.due("a hole behind nothing", x.deliver(0, 1), 0);
        Checks.told(x, 1, 1, 0, 1, 7, 0, 0);
        Checks.packet(x, 1, 0, 2, OrderedCast.WANT, 0, 4, NONE);
        x.put(0, 1, OrderedCast.ORDER, 0, 6, 0);
        x.deliver(0, 1);
        x.say(0, 4);
        x.say(0, 5);
        x.say(0, 6);
        Checks.due("place 4", x.deliver(0, 1), 1);
        Checks.due("place 5, and no thing for the hole behind it", x.deliver(0, 1), 1);
        Checks.due("the hole stays", x.deliver(0, 1), 0);
        Checks.row(x, 1, 0, 2, 3, 4, 5);
    }

    private static void holeOfItsOwnViewBeingSettled() {
        Cast x = new Cast(3, 0);
        x.put(0, 2, OrderedCast.HOLE, 1, 0, NONE);
        x.put(0, 2, OrderedCast.HOLE, -1, 0, NONE);
        Checks.due("of a view above", x.deliver(0, 2), 0);
        Checks.due("of a view below", x.deliver(0, 2), 0);
        Checks.told(x, 2, 1, 0, 1, 0, 0, 0);
        x.crash(0);
        x.suspect(2, 0);
        x.put(1, 2, OrderedCast.HOLE, 1, 2, NONE);
        Checks.due("not settled", x.deliver(1, 2), 0);
        Checks.told(x, 2, 1, 1, 0, 0, 0, 1);
        Checks.due("no WANT, but STATE", x.flying(2, 1), 1);
    }

    /** Node 1 leads view 1 with a hole at place 0 and thing 1 at place 1; NEW flies to node 2. */
    private static Cast leaderWithAHole() {
        Cast x = new Cast(3, 0);
        x.say(0, 10);
        x.say(0, 11);
        x.lose(0, 1);
        x.lose(0, 1);
        x.lose(0, 2);
        x.deliver(0, 2);
        x.lose(2, 0);
        x.crash(0);
        x.suspect(1, 0);
        x.suspect(2, 0);
        Checks.due("STATE", x.deliver(2, 1), 1);
        Checks.told(x, 1, 1, 1, 1, 2, 0, 1);
        return x;
    }

    /** "(For a hole: HOLE (view, place) ..)", and it goes back to the one that wants. */
    private static void wantOfAHole() {
        Cast x = leaderWithAHole();
        x.put(2, 1, OrderedCast.WANT, 1, 0, NONE);
        x.put(2, 1, OrderedCast.WANT, 1, 1, NONE);
        Checks.due("WANT", x.deliver(2, 1), 0);
        Checks.due("HOLE behind NEW", x.flying(1, 2), 2);
        Checks.packet(x, 1, 2, 1, OrderedCast.HOLE, 1, 0, NONE);
        Checks.due("WANT", x.deliver(2, 1), 0);
        Checks.packet(x, 1, 2, 2, OrderedCast.ORDER, 1, 1, 1);
        Checks.due("nothing to another", x.flying(1, 0), 1);
        Checks.due("NEW", x.deliver(1, 2), 1);
        Checks.due("HOLE that is there already", x.deliver(1, 2), 0);
        Checks.due("ORDER that is there already", x.deliver(1, 2), 0);
        Checks.told(x, 2, 1, 1, 1, 2, 0, 1);
        Checks.row(x, 2, 1);
    }

    /** "The leader, settled, gets .. WANT of its view": not one of another view, nor one that is not the leader. */
    private static void wantOfItsView() {
        Cast x = leaderWithAHole();
        x.put(2, 1, OrderedCast.WANT, 0, 0, NONE);
        x.put(2, 1, OrderedCast.WANT, 4, 0, NONE);
        x.deliver(2, 1);
        x.deliver(2, 1);
        Checks.due("of another view", x.flying(1, 2), 1);
        x.deliver(1, 2);
        x.put(1, 2, OrderedCast.WANT, 1, 1, NONE);
        x.deliver(1, 2);
        Checks.due("not the leader", x.flying(2, 1), 0);
        Cast y = new Cast(3, 0);
        y.say(0, 1);
        y.deliver(0, 1);
        y.crash(0);
        y.suspect(1, 0);
        y.put(2, 1, OrderedCast.WANT, 1, 0, NONE);
        y.deliver(2, 1);
        Checks.due("not settled", y.flying(1, 2), 0);
    }

    /** "WANT .. with a place of its log". */
    private static void wantOfAPlaceOfItsLog() {
        Cast x = leaderWithAHole();
        for (int place : new int[] {2, 3, 299, 300, Integer.MAX_VALUE, -1, Integer.MIN_VALUE}) {
            x.put(2, 1, OrderedCast.WANT, 1, place, NONE);
            Checks.due("WANT", x.deliver(2, 1), 0);
            Checks.due("nothing goes back of place " + place, x.flying(1, 2), 1);
        }
    }

    /** "The leader, settled, gets ASK of its view". */
    private static void askOfItsView() {
        Cast x = leaderWithAHole();
        x.crash(2);
        x.say(1, 12);
        int flying = x.flying(1, 0);
        x.put(2, 1, OrderedCast.ASK, 0, NONE, 0);
        x.put(2, 1, OrderedCast.ASK, 4, NONE, 0);
        Checks.due("ASK of a view below", x.deliver(2, 1), 0);
        Checks.due("ASK of a view above", x.deliver(2, 1), 0);
        Checks.told(x, 1, 1, 1, 1, 3, 0, 1);
        Checks.due("no ORDER", x.flying(1, 0), flying);
        x.put(2, 1, OrderedCast.ASK, 1, NONE, 0);
        Checks.due("ASK of its view", x.deliver(2, 1), 1);
        Checks.row(x, 1, 1, 2, 0);
        Cast y = new Cast(3, 0);
        y.say(2, 1);
        y.put(2, 1, OrderedCast.ASK, 0, NONE, 0);
        Checks.due("not the leader", y.deliver(2, 1), 0);
        Checks.told(y, 1, 1, 0, 1, 0, 0, 0);
        y.crash(0);
        y.suspect(1, 0);
        y.put(2, 1, OrderedCast.ASK, 1, NONE, 0);
        Checks.due("not settled", y.deliver(2, 1), 0);
        Checks.told(y, 1, 1, 1, 0, 0, 0, 1);
        Checks.due("no ORDER", y.flying(1, 2), 0);
    }

    /** "if the thing is in its log nowhere": at the first place, in the middle, at the last. */
    private static void askOfAThingInTheLog() {
        Cast x = new Cast(3, 0);
        for (int i = 0; i < 3; i++) {
            x.say(2, i);
            x.deliver(2, 0);
        }
        for (int thing = 0; thing < 3; thing++) {
            x.put(2, 0, OrderedCast.ASK, 0, NONE, thing);
            Checks.due("ASK again", x.deliver(2, 0), 0);
        }
        Checks.told(x, 0, 1, 0, 1, 3, 0, 0);
        Checks.due("no other ORDER", x.flying(0, 1), 3);
    }

    /** Node 1 has thing 0 at place 0, is in view 1, and suspects node 0; things 0 .. 5 are there. */
    private static Cast leaderThatJoins() {
        Cast x = new Cast(4, 0);
        for (int i = 0; i < 6; i++) {
            x.say(0, i);
        }
        x.deliver(0, 1);
        for (int left = 5; left > 0; left--) {
            x.lose(0, 1);
        }
        x.crash(0);
        x.suspect(1, 0);
        Checks.told(x, 1, 1, 1, 0, 1, 0, 1);
        return x;
    }

    /** "the thing that some STATE has there (of several that of the greatest node)": whichever came last. */
    private static void theThingOfTheGreatestNode() {
        for (int first = 2; first <= 3; first++) {
            Cast x = leaderThatJoins();
            x.putLog(2, 1, OrderedCast.STATE, 1, 1, 2, 3);
            x.putLog(3, 1, OrderedCast.STATE, 1, 4, 5);
            x.deliver(first, 1);
            Checks.due("the last STATE: one was heard before", x.deliver(5 - first, 1), 2);
            Checks.row(x, 1, 0, 5, 3);
            Checks.told(x, 1, 1, 1, 1, 3, 0, 1);
            x.suspect(2, 0);
            Checks.due("NEW", x.deliver(1, 2), 3);
            Checks.row(x, 2, 4, 5, 3);
        }
        Cast z = leaderThatJoins();
        z.putLog(0, 1, OrderedCast.STATE, 1, 1);
        z.putLog(2, 1, OrderedCast.STATE, 1, NOTHING);
        z.putLog(3, 1, OrderedCast.STATE, 1);
        z.deliver(0, 1);
        z.deliver(2, 1);
        z.deliver(3, 1);
        z.suspect(3, 0);
        z.deliver(1, 3);
        Checks.row(z, 3, 0);
    }

    /** "that some STATE has there", "up to the last one that any has": also node 0's, which leads again in view 3. */
    private static void whatNodeZeroHas() {
        Cast x = leaderThatJoins();
        x.putLog(0, 1, OrderedCast.STATE, 1, 1, 2, 3);
        x.putLog(2, 1, OrderedCast.STATE, 1);
        x.putLog(3, 1, OrderedCast.STATE, 1, 0, NOTHING);
        Checks.due("STATE", x.deliver(0, 1), 0);
        Checks.due("STATE", x.deliver(2, 1), 0);
        Checks.due("STATE", x.deliver(3, 1), 2);
        Checks.row(x, 1, 0, 2, 3);
        Cast y = new Cast(3, 0);
        y.say(0, 10);
        y.say(0, 11);
        y.putLog(2, 0, OrderedCast.NEW, 2, 0, 1);
        y.putLog(2, 1, OrderedCast.NEW, 2, 0);
        y.deliver(2, 0);
        y.deliver(2, 1);
        y.crash(2);
        y.suspect(0, 2);
        y.suspect(1, 2);
        y.deliver(1, 0);
        Checks.told(y, 0, 1, 3, 1, 2, 0, 1);
        y.lose(0, 1);
        y.lose(0, 1);
        Checks.due("NEW", y.deliver(0, 1), 1);
        Checks.row(y, 1, 0, 1);
        Cast z = leaderThatJoins();
        z.putLog(2, 1, OrderedCast.STATE, 5, 0);
        z.putLog(0, 1, OrderedCast.STATE, 1, 0, 5);
        z.deliver(0, 1);
        z.deliver(2, 1);
        z.putLog(3, 1, OrderedCast.STATE, 5, 0);
        Checks.due("STATE of the view that was left does not count", z.deliver(3, 1), 0);
        Checks.told(z, 1, 1, 5, 1, 1, 0, 1);
    }

    /** "the thing that some STATE has there .., else a HOLE": a hole of a greater node counts for nothing. */
    private static void aThingRatherThanAHole() {
        Cast x = leaderThatJoins();
        x.putLog(2, 1, OrderedCast.STATE, 1, GAP, 1, GAP, NOTHING, 2);
        x.putLog(3, 1, OrderedCast.STATE, 1, GAP, GAP, GAP);
        x.deliver(2, 1);
        Checks.due("STATE", x.deliver(3, 1), 2);
        Checks.row(x, 1, 0, 1, 2);
        Checks.told(x, 1, 1, 1, 1, 5, 0, 1);
        x.suspect(2, 0);
        Checks.due("NEW", x.deliver(1, 2), 3);
        Checks.row(x, 2, 0, 1, 2);
    }

    /** "STATES of its view are kept, the latest of each node". */
    private static void theLatestStateOfEachNode() {
        Cast x = leaderThatJoins();
        x.putLog(2, 1, OrderedCast.STATE, 1, 0, 1, 2, 3);
        x.putLog(2, 1, OrderedCast.STATE, 1, 0, 4);
        x.putLog(3, 1, OrderedCast.STATE, 1);
        x.deliver(2, 1);
        x.deliver(2, 1);
        Checks.told(x, 1, 1, 1, 0, 1, 0, 1);
        Checks.due("STATE of the last", x.deliver(3, 1), 1);
        Checks.row(x, 1, 0, 4);
        Checks.told(x, 1, 1, 1, 1, 2, 0, 1);
    }

    /** "goes to that view likewise, if it is its own". */
    private static void stateOfAViewAboveThatIsNotItsOwn() {
        Cast x = new Cast(3, 0);
        x.say(0, 1);
        for (int view : new int[] {2, 3, 5}) {
            x.putLog(2, 1, OrderedCast.STATE, view, 0);
            Checks.due("STATE", x.deliver(2, 1), 0);
            Checks.told(x, 1, 1, 0, 1, 0, 0, 0);
            Checks.due("no NEW", x.flying(1, 2), 0);
        }
    }

    /** "A leader that gets STATE of a view above its own one": also when it leads that one, and is settled there. */
    private static void stateOfAViewAboveThatIsItsOwn() {
        Cast x = leaderWithAHole();
        x.putLog(2, 1, OrderedCast.STATE, 4, 0);
        Checks.due("STATE of view 4 is enough, with its own one", x.deliver(2, 1), 0);
        Checks.told(x, 1, 1, 4, 1, 2, 0, 1);
        Checks.row(x, 1, 1);
        Checks.packet(x, 1, 2, 1, OrderedCast.NEW, 4, 2, NONE);
        Cast y = leaderThatJoins();
        y.putLog(2, 1, OrderedCast.STATE, 1, 0, 1);
        y.putLog(2, 1, OrderedCast.STATE, 5, 0, 2);
        y.putLog(3, 1, OrderedCast.STATE, 1, 0, 3);
        y.putLog(3, 1, OrderedCast.STATE, 5, 0);
        y.deliver(2, 1);
        y.deliver(2, 1);
        Checks.told(y, 1, 1, 5, 0, 1, 0, 1);
        Checks.due("STATE of the view that was left", y.deliver(3, 1), 0);
        Checks.told(y, 1, 1, 5, 0, 1, 0, 1);
        Checks.due("STATE", y.deliver(3, 1), 1);
        Checks.row(y, 1, 0, 2);
        Cast z = leaderThatJoins();
        z.putLog(2, 1, OrderedCast.STATE, 1, 0, 1);
        z.putLog(3, 1, OrderedCast.STATE, 5, 0);
        z.deliver(2, 1);
        z.deliver(3, 1);
        Checks.told(z, 1, 1, 5, 0, 1, 0, 1);
        Checks.due("kept STATES were of the view that was left", z.flying(1, 2), 0);
    }

    /** "STATES of its view": one of a view below is not kept, and NEW does not go back. */
    private static void stateOfAViewBelow() {
        Cast x = leaderWithAHole();
        x.putLog(0, 1, OrderedCast.NEW, 4, 0);
        x.deliver(0, 1);
        Checks.told(x, 1, 1, 4, 1, 1, 0, 1);
        x.putLog(2, 1, OrderedCast.STATE, 1, 0);
        Checks.due("STATE", x.deliver(2, 1), 0);
        Checks.told(x, 1, 1, 4, 1, 1, 0, 1);
        Checks.due("no other NEW", x.flying(1, 2), 1);
        x.putLog(2, 1, OrderedCast.STATE, 4, 0);
        x.deliver(2, 1);
        Checks.packet(x, 1, 2, 1, OrderedCast.NEW, 4, 1, NONE);
    }

    /** "NEW .. of a higher view: view and log are those; it is settled; ASK of each open thing goes to the leader". */
    private static void newOfAHigherView() {
        Cast x = new Cast(4, 0);
        x.say(3, 10);
        x.say(0, 11);
        x.say(0, 12);
        x.say(3, 13);
        x.deliver(0, 3);
        x.deliver(0, 3);
        Checks.told(x, 3, 1, 0, 1, 2, 2, 0);
        x.putLog(2, 3, OrderedCast.NEW, 2, 1, NOTHING, 0);
        Checks.due("NEW, and the next place has nothing", x.deliver(2, 3), 1);
        Checks.told(x, 3, 1, 2, 1, 3, 1, 0);
        Checks.row(x, 3, 1, 2, 0);
        Checks.due("ASK of what is open", x.flying(3, 2), 1);
        Checks.packet(x, 3, 2, 0, OrderedCast.ASK, 2, NONE, 3);
        x.putLog(2, 3, OrderedCast.NEW, 6, 1);
        Checks.due("a log that is shorter", x.deliver(2, 3), 0);
        Checks.told(x, 3, 1, 6, 1, 1, 2, 0);
        Checks.packet(x, 3, 2, 1, OrderedCast.ASK, 6, NONE, 0);
        Checks.packet(x, 3, 2, 2, OrderedCast.ASK, 6, NONE, 3);
    }

    private static void newOfAHigherViewNotSettled() {
        Cast x = new Cast(4, 0);
        x.say(3, 10);
        x.crash(0);
        x.suspect(3, 0);
        Checks.told(x, 3, 1, 1, 0, 0, 1, 1);
        x.putLog(2, 3, OrderedCast.NEW, 2);
        Checks.due("NEW", x.deliver(2, 3), 0);
        Checks.told(x, 3, 1, 2, 1, 0, 1, 1);
        Checks.packet(x, 3, 2, 0, OrderedCast.ASK, 2, NONE, 0);
        x.putLog(2, 3, OrderedCast.NEW, 1, 0);
        Checks.due("NEW of a view below", x.deliver(2, 3), 0);
        Checks.told(x, 3, 1, 2, 1, 0, 1, 1);
    }

    /** "NEW, of the node's view, not settled": a settled node passes it over. */
    private static void newWhenSettled() {
        Cast x = leaderWithAHole();
        x.deliver(1, 2);
        Checks.told(x, 2, 1, 1, 1, 2, 0, 1);
        x.putLog(1, 2, OrderedCast.NEW, 1, GAP, 1, 0);
        x.putLog(1, 2, OrderedCast.NEW, 0, GAP, 1, 0);
        Checks.due("NEW of its view", x.deliver(1, 2), 0);
        Checks.due("NEW of a view below", x.deliver(1, 2), 0);
        Checks.told(x, 2, 1, 1, 1, 2, 0, 1);
        Cast y = new Cast(2, 0);
        y.say(0, 1);
        y.putLog(0, 1, OrderedCast.NEW, 0, 0);
        y.lose(0, 1);
        Checks.due("NEW of view 0", y.deliver(0, 1), 0);
        Checks.told(y, 1, 1, 0, 1, 0, 0, 0);
    }

    /** "the LEADER of view v is the node that is the rest of v by the number of nodes": above the last node too. */
    private static void leadersGoRound() {
        for (int nodes = 2; nodes <= 5; nodes++) {
            for (int view = 1; view <= 3 * nodes; view++) {
                Cast x = new Cast(nodes, 0);
                int leader = view % nodes;
                int other = (leader + 1) % nodes;
                x.putLog(leader, other, OrderedCast.NEW, view);
                x.deliver(leader, other);
                Checks.told(x, other, 1, view, 1, 0, 0, 0);
                x.say(other, 7);
                Checks.due("ASK to the leader", x.flying(other, leader), 1);
                Checks.packet(x, other, leader, 0, OrderedCast.ASK, view, NONE, 0);
                x.lose(other, leader);
                x.putLog(other, leader, OrderedCast.NEW, view);
                x.deliver(other, leader);
                Checks.told(x, leader, 1, view, 1, 0, 0, 0);
                x.put(other, leader, OrderedCast.ASK, view, NONE, 0);
                Checks.due("the leader numbers", x.deliver(other, leader), 1);
                Checks.packet(x, leader, other, 0, OrderedCast.ORDER, view, 0, 0);
            }
        }
    }

    /** "its view becomes the next one, and again as long as it suspects that one's leader": from the last node on to 0. */
    private static void theNextViewGoesRound() {
        Cast x = new Cast(3, 0);
        x.putLog(2, 0, OrderedCast.NEW, 2);
        x.putLog(2, 1, OrderedCast.NEW, 2);
        x.deliver(2, 0);
        x.deliver(2, 1);
        x.crash(2);
        x.suspect(1, 2);
        Checks.told(x, 1, 1, 3, 0, 0, 0, 1);
        Checks.packet(x, 1, 0, 0, OrderedCast.STATE, 3, 0, NONE);
        x.suspect(0, 2);
        Checks.told(x, 0, 1, 3, 0, 0, 0, 1);
        x.deliver(1, 0);
        Checks.told(x, 0, 1, 3, 1, 0, 0, 1);
        Checks.packet(x, 0, 1, 0, OrderedCast.NEW, 3, 0, NONE);
        Cast y = new Cast(3, 0);
        y.putLog(2, 1, OrderedCast.NEW, 2);
        y.deliver(2, 1);
        y.crash(0);
        y.crash(2);
        y.suspect(1, 0);
        Checks.told(y, 1, 1, 2, 1, 0, 0, 1);
        y.suspect(1, 2);
        Checks.told(y, 1, 1, 4, 1, 0, 0, 2);
        Checks.packet(y, 1, 0, 0, OrderedCast.NEW, 4, 0, NONE);
    }

    /** "All else is passed over": what belongs to the other engine. */
    private static void allElseIsPassedOver() {
        Cast x = new Cast(3, 0);
        x.say(0, 1);
        x.lose(0, 1);
        String before = x.whole();
        x.put(0, 1, OrderedCast.SAID, 0, 0, 0);
        x.put(0, 1, OrderedCast.HELLO, 0, 0, 0);
        Checks.due("SAID", x.deliver(0, 1), 0);
        Checks.due("HELLO", x.deliver(0, 1), 0);
        Checks.due("all", x.whole(), before);
    }
}
