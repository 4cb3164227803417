/** Logs: places, gaps, holes, and what is heard of them: "Terms", by numbers, and promises 4, 13 and 14. */
public final class EdgeLogsTest {
    public static void main(String[] args) {
        placesUpToTheLast();
        theNextPlaceOrOneBehind();
        theFirstSuchPlace();
        whatIsThereAlready();
        orderGoesBackToTheOneThatWants();
        wantWithNobodyToAnswer();
        joinOfAllStates();
        theLastThatAnyHas();
        aStateOfOneSuspectedSince();
        holesAreNotInTheRow();
        holesStayHoles();
        theLogThatWasSent();
        behindTheLastPlace();
        logsLongerThanAllThings();
        Checks.end("edges: logs");
    }

    /** "places of its log up to the last one that has something": also with nothing before it. */
    private static void placesUpToTheLast() {
        Cast x = new Cast(2, 0);
        Checks.told(x, 1, 1, 0, 1, 0, 0, 0);
        for (int i = 0; i < 6; i++) {
            x.say(0, i);
            Checks.due("places of the leader", x.told(0, 3), i + 1);
        }
        Checks.due("places", x.told(1, 3), 0);
        x.deliver(0, 1);
        Checks.due("places", x.told(1, 3), 1);
        for (int i = 0; i < 4; i++) {
            x.lose(0, 1);
        }
        x.deliver(0, 1);
        Checks.due("places", x.told(1, 3), 6);
        Checks.due("heard", x.heard(1), 1);
    }

    /** "if a place before it has nothing, WANT": not at place 0, not at the next place, but one behind it. */
    private static void theNextPlaceOrOneBehind() {
        Cast x = new Cast(2, 0);
        for (int i = 0; i < 4; i++) {
            x.say(0, i);
        }
        Checks.due("place 0", x.deliver(0, 1), 1);
        Checks.due("no WANT", x.flying(1, 0), 0);
        Checks.due("the next place", x.deliver(0, 1), 1);
        Checks.due("no WANT", x.flying(1, 0), 0);
        x.lose(0, 1);
        Checks.due("one behind it", x.deliver(0, 1), 0);
        Checks.due("WANT", x.flying(1, 0), 1);
        Checks.packet(x, 1, 0, 0, OrderedCast.WANT, 0, 2, OrderedCast.NONE);
    }

    /** "WANT (view, the first such place)", each time that an ORDER comes behind a place with nothing. */
    private static void theFirstSuchPlace() {
        Cast x = new Cast(2, 0);
        for (int i = 0; i < 6; i++) {
            x.say(0, i);
        }
        x.lose(0, 1);
        x.deliver(0, 1);
        x.lose(0, 1);
        x.deliver(0, 1);
        x.deliver(0, 1);
        x.lose(0, 1);
        Checks.due("a WANT each", x.flying(1, 0), 3);
        for (int k = 0; k < 3; k++) {
            Checks.packet(x, 1, 0, k, OrderedCast.WANT, 0, 0, OrderedCast.NONE);
        }
        x.deliver(1, 0);
        Checks.due("ORDER of place 0, heard up to the next gap", x.deliver(0, 1), 2);
        Checks.due("none for gaps behind it", x.flying(1, 0), 2);
        x.say(0, 6);
        Checks.due("ORDER of place 6", x.deliver(0, 1), 0);
        Checks.packet(x, 1, 0, 2, OrderedCast.WANT, 0, 2, OrderedCast.NONE);
        x.lose(1, 0);
        x.lose(1, 0);
        x.deliver(1, 0);
        Checks.due("ORDER of place 2", x.deliver(0, 1), 3);
        x.say(0, 7);
        x.deliver(0, 1);
        Checks.packet(x, 1, 0, 0, OrderedCast.WANT, 0, 5, OrderedCast.NONE);
        x.deliver(1, 0);
        Checks.due("ORDER of place 5", x.deliver(0, 1), 3);
        Checks.row(x, 1, 0, 1, 2, 3, 4, 5, 6, 7);
    }

    /** "comes into its log, if there is nothing there yet": the second one is not heard again. */
    private static void whatIsThereAlready() {
        Cast x = new Cast(2, 0);
        for (int i = 0; i < 3; i++) {
            x.say(0, i);
        }
        x.lose(0, 1);
        x.deliver(0, 1);
        x.deliver(0, 1);
        x.deliver(1, 0);
        x.deliver(1, 0);
        Checks.due("flying", x.flying(0, 1), 2);
        Checks.due("the first", x.deliver(0, 1), 3);
        Checks.due("the second", x.deliver(0, 1), 0);
        Checks.due("no WANT", x.flying(1, 0), 0);
        Checks.row(x, 1, 0, 1, 2);
        Checks.told(x, 1, 1, 0, 1, 3, 0, 0);
    }

    /** "ORDER of that goes back": to nobody else, and of that place alone. */
    private static void orderGoesBackToTheOneThatWants() {
        Cast x = new Cast(4, 0);
        for (int i = 0; i < 3; i++) {
            x.say(0, 10 + i);
        }
        x.lose(0, 2);
        x.deliver(0, 2);
        x.say(0, 13);
        Checks.due("WANT", x.deliver(2, 0), 0);
        Checks.due("flying to 1", x.flying(0, 1), 4);
        Checks.due("flying to 3", x.flying(0, 3), 4);
        Checks.due("flying to 2", x.flying(0, 2), 3);
        Checks.packet(x, 0, 2, 2, OrderedCast.ORDER, 0, 0, 0);
        Checks.told(x, 0, 1, 0, 1, 4, 0, 0);
    }

    /** The leader has crashed: WANT flies to it all the same, and nothing comes back. */
    private static void wantWithNobodyToAnswer() {
        Cast x = new Cast(3, 0);
        x.say(0, 1);
        x.say(0, 2);
        x.lose(0, 1);
        x.crash(0);
        Checks.due("ORDER", x.deliver(0, 1), 0);
        Checks.packet(x, 1, 0, 0, OrderedCast.WANT, 0, 0, OrderedCast.NONE);
        Checks.due("WANT", x.deliver(1, 0), 0);
        Checks.due("nothing comes back", x.flying(0, 1), 0);
        Checks.due("it is gone", x.deliver(1, 0), OrderedCast.NONE);
    }

    /** "the thing that some STATE has there .., else a HOLE": each node has another part of the log, node 4 too. */
    private static void joinOfAllStates() {
        Cast x = new Cast(5, 0);
        for (int i = 0; i < 5; i++) {
            x.say(0, i);
            x.lose(0, 1);
            give(x, 2, i == 0);
            give(x, 3, i == 1 || i == 4);
            give(x, 4, i == 2);
        }
        x.crash(0);
        for (int node = 1; node < 5; node++) {
            x.suspect(node, 0);
        }
        Checks.packet(x, 2, 1, 0, OrderedCast.STATE, 1, 1, OrderedCast.NONE);
        Checks.packet(x, 3, 1, 0, OrderedCast.STATE, 1, 5, OrderedCast.NONE);
        Checks.packet(x, 4, 1, 0, OrderedCast.STATE, 1, 3, OrderedCast.NONE);
        Checks.due("STATE", x.deliver(2, 1), 0);
        Checks.due("STATE", x.deliver(3, 1), 0);
        Checks.due("the last STATE", x.deliver(4, 1), 4);
        Checks.row(x, 1, 0, 1, 2, 4);
        Checks.told(x, 1, 1, 1, 1, 5, 0, 1);
        Checks.due("NEW, one heard before", x.deliver(1, 2), 3);
        Checks.due("NEW", x.deliver(1, 3), 4);
        Checks.due("NEW", x.deliver(1, 4), 4);
        for (int node = 2; node < 5; node++) {
            Checks.row(x, node, 0, 1, 2, 4);
            Checks.told(x, node, 1, 1, 1, 5, 0, 1);
        }
        x.say(1, 9);
        Checks.packet(x, 1, 4, 0, OrderedCast.ORDER, 1, 5, 5);
    }

    private static void give(Cast x, int node, boolean comes) {
        if (comes) {
            x.deliver(0, node);
        } else {
            x.lose(0, node);
        }
    }

    /** "up to the last one that any has": what nobody has behind that is no hole, and its place is given again. */
    private static void theLastThatAnyHas() {
        Cast x = new Cast(3, 0);
        for (int i = 0; i < 4; i++) {
            x.say(0, i);
        }
        x.deliver(0, 2);
        x.deliver(0, 2);
        x.deliver(0, 1);
        x.crash(0);
        x.suspect(1, 0);
        x.suspect(2, 0);
        Checks.due("STATE", x.deliver(2, 1), 1);
        Checks.told(x, 1, 1, 1, 1, 2, 0, 1);
        Checks.packet(x, 1, 2, 0, OrderedCast.NEW, 1, 2, OrderedCast.NONE);
        x.say(1, 5);
        Checks.packet(x, 1, 2, 1, OrderedCast.ORDER, 1, 2, 4);
        Cast y = new Cast(3, 0);
        y.say(0, 1);
        y.crash(0);
        y.suspect(1, 0);
        y.suspect(2, 0);
        Checks.due("STATE, and nobody has anything", y.deliver(2, 1), 0);
        Checks.told(y, 1, 1, 1, 1, 0, 0, 1);
    }

    /** "STATES of its view are kept": also that of a node that is suspected before they are enough. */
    private static void aStateOfOneSuspectedSince() {
        Cast x = new Cast(4, 0);
        x.say(0, 1);
        x.say(0, 2);
        x.lose(0, 3);
        x.deliver(0, 3);
        x.crash(0);
        x.suspect(3, 0);
        x.deliver(3, 1);
        x.crash(3);
        x.suspect(2, 0);
        x.suspect(1, 0);
        x.suspect(1, 3);
        Checks.told(x, 1, 1, 1, 0, 0, 0, 2);
        Checks.due("STATE", x.deliver(2, 1), 1);
        Checks.row(x, 1, 1);
        Checks.told(x, 1, 1, 1, 1, 2, 0, 2);
    }

    /** "(a hole is passed over, and not in its row)": holes in front, in the middle, two in a row. */
    private static void holesAreNotInTheRow() {
        Cast x = new Cast(3, 0);
        for (int i = 0; i < 7; i++) {
            x.say(0, i);
            x.lose(0, 1);
            give(x, 2, i == 1 || i == 2 || i == 5 || i == 6);
        }
        x.crash(0);
        x.suspect(2, 0);
        x.suspect(1, 0);
        Checks.due("STATE", x.deliver(2, 1), 4);
        Checks.row(x, 1, 1, 2, 5, 6);
        Checks.told(x, 1, 1, 1, 1, 7, 0, 1);
        Checks.due("NEW", x.deliver(1, 2), 4);
        Checks.row(x, 2, 1, 2, 5, 6);
        Checks.due("shared", x.shared(1, 2), 4);
        Checks.bounds(x, "at 4", () -> x.at(1, 4));
    }

    /** A hole is something: in the next view its place is a hole again, and what is behind it stays there. */
    private static void holesStayHoles() {
        Cast x = new Cast(4, 0);
        x.say(0, 1);
        x.say(0, 2);
        x.lose(0, 3);
        x.deliver(0, 3);
        x.crash(0);
        for (int node = 1; node < 4; node++) {
            x.suspect(node, 0);
        }
        x.deliver(2, 1);
        Checks.due("STATE", x.deliver(3, 1), 1);
        Checks.due("NEW", x.deliver(1, 2), 1);
        x.crash(1);
        x.suspect(2, 1);
        x.suspect(3, 1);
        Checks.packet(x, 3, 2, 0, OrderedCast.STATE, 2, 2, OrderedCast.NONE);
        Checks.due("STATE", x.deliver(3, 2), 0);
        Checks.told(x, 2, 1, 2, 1, 2, 0, 2);
        Checks.due("NEW of the old view", x.deliver(1, 3), 0);
        Checks.due("NEW", x.deliver(2, 3), 1);
        Checks.row(x, 2, 1);
        Checks.row(x, 3, 1);
        x.say(2, 9);
        Checks.due("ORDER behind", x.deliver(2, 3), 1);
        Checks.told(x, 3, 1, 2, 1, 3, 0, 2);
        Checks.due("no WANT of a hole", x.flying(3, 2), 0);
    }

    /** "STATE (view, its log)", "NEW (view, its log)": the log as it was then, whatever comes into it later. */
    private static void theLogThatWasSent() {
        Cast x = new Cast(4, 0);
        x.say(0, 1);
        x.deliver(0, 2);
        x.crash(0);
        for (int node = 1; node < 4; node++) {
            x.suspect(node, 0);
        }
        Checks.packet(x, 2, 1, 0, OrderedCast.STATE, 1, 1, OrderedCast.NONE);
        x.deliver(2, 1);
        x.deliver(3, 1);
        x.say(1, 2);
        x.say(1, 3);
        Checks.told(x, 1, 1, 1, 1, 3, 0, 1);
        Checks.packet(x, 1, 3, 0, OrderedCast.NEW, 1, 1, OrderedCast.NONE);
        Checks.due("NEW", x.deliver(1, 3), 1);
        Checks.told(x, 3, 1, 1, 1, 1, 0, 1);
        Checks.due("ORDER", x.deliver(1, 3), 1);
        Checks.told(x, 3, 1, 1, 1, 2, 0, 1);
    }

    /** "it comes to the place behind its last": of those that are asked for and those it says itself. */
    private static void behindTheLastPlace() {
        Cast x = new Cast(3, 0);
        x.say(2, 1);
        x.say(0, 2);
        x.say(1, 3);
        x.deliver(1, 0);
        x.say(0, 4);
        x.deliver(2, 0);
        Checks.row(x, 0, 1, 2, 3, 0);
        for (int place = 0; place < 4; place++) {
            Checks.packet(x, 0, 1, place, OrderedCast.ORDER, 0, place, x.at(0, place));
        }
    }

    /**
     * No sentence bounds a log: things whose places nobody has any more are open, and get other ones. Each leader
     * numbers all that is left of the nodes behind it, but only its last ORDER comes to node 4.
     */
    private static void logsLongerThanAllThings() {
        Cast x = new Cast(5, 0);
        for (int i = 0; i < 60; i++) {
            x.say(1 + i % 4, i);
        }
        int[] places = {46, 92, 123, 150};
        for (int leader = 0; leader < 4; leader++) {
            for (int node = leader + 1; node < 4; node++) {
                deliver(x, node, leader, 15);
            }
            deliver(x, 4, leader, leader == 3 ? 11 : 0);
            for (int i = x.flying(leader, 4); i > 0; i--) {
                x.lose(leader, 4);
            }
            x.deliver(4, leader);
            Checks.due("ORDER behind many gaps", x.deliver(leader, 4), 0);
            Checks.due("places", x.told(4, 3), places[leader]);
            x.goToView(leader + 1, 5);
        }
        Checks.told(x, 4, 1, 4, 1, 161, 0, 4);
        Checks.row(x, 4, 3, 7, 11, 59, 15, 19, 23, 27, 31, 35, 39, 43, 47, 51, 55);
    }

    private static void deliver(Cast x, int from, int to, int packets) {
        for (int i = 0; i < packets; i++) {
            x.deliver(from, to);
        }
    }
}
