/** Views, their leaders, and what suspecting does: "Terms", by numbers, and promises 2, 4 and 7. */
public final class EdgeViewsTest {
    public static void main(String[] args) {
        leadersOfAllViews();
        asksGoToTheLeaderOfTheView();
        nextViewButThoseSuspected();
        onlyAsLongAsItSuspects();
        ownStateAtOnce();
        stateOfAViewAbove();
        aStateOfEachNotSuspected();
        suspectingTheMissingOne();
        notSettledBeforeTheOldLeaderIsSuspected();
        whatIsOpenIsNumbered();
        whatIsOpenIsAskedFor();
        notSettledNothingIsAsked();
        ordersOfItsOwnViewBeingSettled();
        stateWhenSettled();
        newOfAViewThatWasLeft();
        anotherThanTheLeader();
        whoSuspectsWhom();
        oneOrderOfThoseThatDoNotCrash();
        Checks.end("edges: views");
    }

    /** "a node is in a VIEW, at first 0; the LEADER of view v is the node that is the rest of v": up to the last one. */
    private static void leadersOfAllViews() {
        for (int nodes = 2; nodes <= 5; nodes++) {
            Cast x = new Cast(nodes, 0);
            int last = nodes - 1;
            Checks.told(x, last, 1, 0, 1, 0, 0, 0);
            for (int view = 1; view < last; view++) {
                x.crash(view - 1);
                Checks.due("suspect", x.suspect(last, view - 1), 0);
                Checks.told(x, last, 1, view, 0, 0, 0, view);
                Checks.due("STATE to the leader", x.flying(last, view), 1);
                Checks.packet(x, last, view, 0, OrderedCast.STATE, view, 0, OrderedCast.NONE);
                Checks.due("nothing to the one before", x.flying(last, 0), 0);
            }
            x.crash(last - 1);
            x.suspect(last, last - 1);
            Checks.told(x, last, 1, last, 1, 0, 0, last);
            for (int to = 0; to < last; to++) {
                Checks.packet(x, last, to, x.flying(last, to) - 1, OrderedCast.NEW, last, 0, OrderedCast.NONE);
            }
        }
    }

    /** "ASK (view, thing) goes to the leader", in every view of every number of nodes. */
    private static void asksGoToTheLeaderOfTheView() {
        for (int nodes = 2; nodes <= 5; nodes++) {
            Cast x = new Cast(nodes, 0);
            int last = nodes - 1;
            for (int view = 0; view < last; view++) {
                if (view > 0) {
                    x.goToView(view, nodes);
                }
                Checks.due("say", x.say(last, view), view);
                Checks.due("ASK to the leader", x.flying(last, view), 1);
                Checks.packet(x, last, view, 0, OrderedCast.ASK, view, OrderedCast.NONE, view);
                Checks.due("ASK", x.deliver(last, view), 1);
                for (int to = view + 1; to < nodes; to++) {
                    Checks.packet(x, view, to, 0, OrderedCast.ORDER, view, view, view);
                    Checks.due("ORDER", x.deliver(view, to), 1);
                }
            }
            Checks.due("heard", x.heard(last), last);
        }
    }

    /** "its view becomes the next one, and again as long as it suspects that one's leader". */
    private static void nextViewButThoseSuspected() {
        Cast x = new Cast(5, 0);
        x.crash(0);
        x.crash(1);
        x.crash(3);
        x.suspect(4, 1);
        x.suspect(4, 3);
        Checks.told(x, 4, 1, 0, 1, 0, 0, 2);
        x.suspect(4, 0);
        Checks.told(x, 4, 1, 2, 0, 0, 0, 3);
        Checks.packet(x, 4, 2, 0, OrderedCast.STATE, 2, 0, OrderedCast.NONE);
        Checks.due("only one STATE", x.flying(4, 0) + x.flying(4, 1) + x.flying(4, 2) + x.flying(4, 3), 1);
        x.crash(2);
        x.suspect(4, 2);
        Checks.told(x, 4, 1, 4, 1, 0, 0, 4);
        Checks.due("no STATE to 3, but NEW", x.flying(4, 3), 1);
        Checks.packet(x, 4, 3, 0, OrderedCast.NEW, 4, 0, OrderedCast.NONE);
    }

    /** The next one is not suspected: then it is not passed over, whoever is behind it, nor when it has crashed. */
    private static void onlyAsLongAsItSuspects() {
        Cast x = new Cast(5, 0);
        for (int i = 0; i < 4; i++) {
            x.crash(i);
        }
        x.suspect(4, 2);
        x.suspect(4, 3);
        x.suspect(4, 0);
        Checks.told(x, 4, 1, 1, 0, 0, 0, 3);
        Checks.packet(x, 4, 1, 0, OrderedCast.STATE, 1, 0, OrderedCast.NONE);
        x.suspect(4, 1);
        Checks.told(x, 4, 1, 4, 1, 0, 0, 4);
    }

    /** "(Being that itself, it has its own STATE at once.)": that is enough of itself, and not of others. */
    private static void ownStateAtOnce() {
        Cast x = new Cast(2, 0);
        x.say(1, 5);
        x.crash(0);
        Checks.due("suspect", x.suspect(1, 0), 1);
        Checks.told(x, 1, 1, 1, 1, 1, 0, 1);
        Cast y = new Cast(3, 0);
        y.say(1, 5);
        y.crash(0);
        Checks.due("suspect", y.suspect(1, 0), 0);
        Checks.told(y, 1, 1, 1, 0, 0, 1, 1);
        Checks.due("STATE does not fly to others", y.flying(1, 2), 0);
        Cast z = new Cast(3, 0);
        z.say(1, 5);
        z.crash(0);
        z.crash(2);
        z.suspect(1, 2);
        Checks.due("suspect", z.suspect(1, 0), 1);
        Checks.told(z, 1, 1, 1, 1, 1, 0, 2);
    }

    /** "A leader that gets STATE of a view above its own one goes to that view likewise": also over one between. */
    private static void stateOfAViewAbove() {
        Cast x = new Cast(4, 0);
        x.say(0, 1);
        x.deliver(0, 2);
        x.crash(0);
        x.crash(1);
        x.suspect(3, 0);
        x.suspect(3, 1);
        Checks.due("STATE of view 2", x.deliver(3, 2), 0);
        Checks.told(x, 2, 1, 2, 0, 1, 0, 0);
        Checks.due("it sends none", x.flying(2, 0) + x.flying(2, 1) + x.flying(2, 3), 0);
        x.say(2, 8);
        Checks.told(x, 2, 1, 2, 0, 1, 1, 0);
        Checks.due("suspect", x.suspect(2, 0), 0);
        Checks.told(x, 2, 1, 2, 0, 1, 1, 1);
        Checks.due("suspect", x.suspect(2, 1), 1);
        Checks.told(x, 2, 1, 2, 1, 2, 0, 2);
        Checks.packet(x, 2, 3, 0, OrderedCast.NEW, 2, 1, OrderedCast.NONE);
        Checks.packet(x, 2, 3, 1, OrderedCast.ORDER, 2, 1, 1);
    }

    /** "when there is one of each node that it does not suspect": one missing is not enough. */
    private static void aStateOfEachNotSuspected() {
        for (int nodes = 3; nodes <= 5; nodes++) {
            Cast x = new Cast(nodes, 0);
            x.crash(0);
            for (int node = 1; node < nodes; node++) {
                x.suspect(node, 0);
            }
            for (int node = nodes - 1; node > 1; node--) {
                Checks.told(x, 1, 1, 1, 0, 0, 0, 1);
                Checks.due("no NEW yet", x.flying(1, 2), 0);
                Checks.due("STATE", x.deliver(node, 1), 0);
            }
            Checks.told(x, 1, 1, 1, 1, 0, 0, 1);
            for (int to = 0; to < nodes; to++) {
                if (to != 1) {
                    Checks.due("NEW goes to all others", x.flying(1, to), 1);
                    Checks.packet(x, 1, to, 0, OrderedCast.NEW, 1, 0, OrderedCast.NONE);
                }
            }
        }
    }

    /** One that has crashed is awaited as long as it is not suspected; what it said in its STATE counts. */
    private static void suspectingTheMissingOne() {
        Cast x = new Cast(4, 0);
        x.say(1, 6);
        x.crash(0);
        for (int node = 1; node < 4; node++) {
            x.suspect(node, 0);
        }
        x.lose(3, 1);
        x.deliver(2, 1);
        Checks.told(x, 1, 1, 1, 0, 0, 1, 1);
        x.crash(3);
        Checks.told(x, 1, 1, 1, 0, 0, 1, 1);
        Checks.due("suspect", x.suspect(1, 3), 1);
        Checks.told(x, 1, 1, 1, 1, 1, 0, 2);
    }

    /** A leader by a STATE alone awaits the old leader too, which has crashed, until it suspects that. */
    private static void notSettledBeforeTheOldLeaderIsSuspected() {
        Cast x = new Cast(3, 0);
        x.say(1, 6);
        x.crash(0);
        x.suspect(2, 0);
        Checks.due("STATE", x.deliver(2, 1), 0);
        Checks.told(x, 1, 1, 1, 0, 0, 1, 0);
        Checks.due("suspect", x.suspect(1, 0), 1);
        Checks.told(x, 1, 1, 1, 1, 1, 0, 1);
    }

    /** "what is open is numbered, by things' numbers": its own, from thing 0 on, behind the joined log. */
    private static void whatIsOpenIsNumbered() {
        Cast x = new Cast(3, 0);
        x.say(1, 10);
        x.say(2, 11);
        x.say(1, 12);
        x.say(0, 13);
        x.say(1, 14);
        x.deliver(0, 2);
        x.lose(2, 0);
        x.crash(0);
        x.suspect(1, 0);
        x.suspect(2, 0);
        Checks.told(x, 1, 1, 1, 0, 0, 3, 1);
        Checks.due("STATE", x.deliver(2, 1), 4);
        Checks.row(x, 1, 3, 0, 2, 4);
        Checks.packet(x, 1, 2, 0, OrderedCast.NEW, 1, 1, OrderedCast.NONE);
        Checks.packet(x, 1, 2, 1, OrderedCast.ORDER, 1, 1, 0);
        Checks.packet(x, 1, 2, 2, OrderedCast.ORDER, 1, 2, 2);
        Checks.packet(x, 1, 2, 3, OrderedCast.ORDER, 1, 3, 4);
        Checks.due("nothing else", x.flying(1, 2), 4);
    }

    /** "ASK of each open thing goes to the leader, by their numbers": what is in the log is not asked for. */
    private static void whatIsOpenIsAskedFor() {
        Cast x = new Cast(3, 0);
        for (int i = 0; i < 3; i++) {
            x.say(2, i);
        }
        x.lose(2, 0);
        x.deliver(2, 0);
        Checks.due("ORDER", x.deliver(0, 2), 1);
        Checks.told(x, 2, 1, 0, 1, 1, 2, 0);
        x.crash(0);
        x.suspect(2, 0);
        x.say(2, 3);
        Checks.told(x, 2, 1, 1, 0, 1, 3, 1);
        x.suspect(1, 0);
        Checks.due("STATE", x.deliver(2, 1), 1);
        Checks.due("NEW", x.deliver(1, 2), 0);
        Checks.due("flying", x.flying(2, 1), 3);
        Checks.packet(x, 2, 1, 0, OrderedCast.ASK, 1, OrderedCast.NONE, 0);
        Checks.packet(x, 2, 1, 1, OrderedCast.ASK, 1, OrderedCast.NONE, 2);
        Checks.packet(x, 2, 1, 2, OrderedCast.ASK, 1, OrderedCast.NONE, 3);
    }

    /** "ASK (view, thing) goes to the leader, if the node is SETTLED (at first all are)". */
    private static void notSettledNothingIsAsked() {
        Cast x = new Cast(3, 0);
        x.say(2, 1);
        Checks.due("settled: ASK", x.flying(2, 0), 1);
        x.crash(0);
        x.suspect(2, 0);
        x.say(2, 2);
        Checks.due("not settled: no ASK to the old leader", x.flying(2, 0), 1);
        Checks.due("nor to the new one", x.flying(2, 1), 1);
        Checks.packet(x, 2, 1, 0, OrderedCast.STATE);
        Checks.told(x, 2, 1, 1, 0, 0, 2, 1);
        x.suspect(1, 0);
        x.deliver(2, 1);
        x.deliver(1, 2);
        x.say(2, 3);
        Checks.due("settled again: ASK at once", x.flying(2, 1), 3);
        Checks.packet(x, 2, 1, 2, OrderedCast.ASK, 1, OrderedCast.NONE, 2);
    }

    /** "ORDER .. that a node gets of its own view, being settled": any other one is passed over, and WANT does not fly. */
    private static void ordersOfItsOwnViewBeingSettled() {
        Cast x = new Cast(3, 0);
        for (int i = 0; i < 4; i++) {
            x.say(0, i);
        }
        Checks.due("settled, of its own view", x.deliver(0, 2), 1);
        x.crash(0);
        x.suspect(2, 0);
        Checks.due("not settled, of the old view", x.deliver(0, 2), 0);
        x.suspect(1, 0);
        Checks.due("STATE", x.deliver(2, 1), 1);
        x.say(1, 9);
        Checks.due("NEW is lost", x.lose(1, 2), 1);
        Checks.packet(x, 1, 2, 0, OrderedCast.ORDER, 1, 1, 4);
        Checks.due("not settled, of its own view", x.deliver(1, 2), 0);
        Checks.told(x, 2, 1, 1, 0, 1, 0, 1);
        for (int place = 0; place < 4; place++) {
            Checks.packet(x, 0, 1, 0, OrderedCast.ORDER, 0, place, place);
            Checks.due("settled, of the old view", x.deliver(0, 1), 0);
        }
        Checks.told(x, 1, 1, 1, 1, 2, 0, 1);
        Checks.row(x, 1, 0, 4);
        Checks.due("no WANT to the new leader", x.flying(2, 1), 0);
        Checks.due("NEW and ORDER to the old one, and no WANT", x.flying(1, 0), 2);
    }

    /** "A STATE of its view that comes when it is settled: NEW goes to that one": not to all, and the log of now. */
    private static void stateWhenSettled() {
        Cast x = new Cast(4, 0);
        x.say(0, 1);
        x.deliver(0, 3);
        x.crash(0);
        x.suspect(3, 0);
        x.crash(3);
        x.suspect(1, 0);
        x.suspect(1, 3);
        x.suspect(2, 0);
        x.deliver(2, 1);
        x.say(1, 2);
        x.say(1, 3);
        Checks.row(x, 1, 1, 2);
        Checks.due("STATE, too late to be joined", x.deliver(3, 1), 0);
        Checks.told(x, 1, 1, 1, 1, 2, 0, 2);
        Checks.due("to that one", x.flying(1, 3), 4);
        Checks.packet(x, 1, 3, 0, OrderedCast.NEW, 1, 0, OrderedCast.NONE);
        Checks.packet(x, 1, 3, 3, OrderedCast.NEW, 1, 2, OrderedCast.NONE);
        Checks.due("not to others", x.flying(1, 2), 3);
        Checks.due("nor to the crashed leader", x.flying(1, 0), 3);
    }

    /** "NEW, of the node's view, not settled": one of a view that the node has left is passed over. */
    private static void newOfAViewThatWasLeft() {
        Cast x = new Cast(4, 0);
        x.say(3, 9);
        x.crash(0);
        for (int node = 1; node < 4; node++) {
            x.suspect(node, 0);
        }
        x.deliver(2, 1);
        x.deliver(3, 1);
        x.crash(1);
        x.suspect(3, 1);
        Checks.due("NEW of view 1", x.deliver(1, 3), 0);
        Checks.told(x, 3, 1, 2, 0, 0, 1, 2);
        Checks.due("no ASK, but STATE", x.flying(3, 2), 1);
        Checks.due("NEW of its view", x.deliver(1, 2), 0);
        Checks.told(x, 2, 1, 1, 1, 0, 0, 1);
        Checks.due("STATE of a view above, when settled", x.deliver(3, 2), 0);
        Checks.told(x, 2, 1, 2, 0, 0, 0, 1);
        x.suspect(2, 1);
        Checks.told(x, 2, 1, 2, 1, 0, 0, 2);
        x.deliver(2, 3);
        Checks.told(x, 3, 1, 2, 1, 0, 1, 2);
        Checks.packet(x, 3, 2, 0, OrderedCast.ASK, 2, OrderedCast.NONE, 0);
    }

    /** "(A node that is told to suspect another one that is not its leader looks only whether its STATES are enough now.)" */
    private static void anotherThanTheLeader() {
        Cast x = new Cast(5, 0);
        x.crash(3);
        Checks.due("suspect by the leader, settled", x.suspect(0, 3), 0);
        Checks.due("suspect by another, settled", x.suspect(4, 3), 0);
        Checks.told(x, 0, 1, 0, 1, 0, 0, 1);
        Checks.told(x, 4, 1, 0, 1, 0, 0, 1);
        for (int to = 0; to < 4; to++) {
            Checks.due("nothing flies", x.flying(4, to), 0);
            Checks.due("nothing flies", x.flying(0, to + 1), 0);
        }
        x.crash(0);
        x.suspect(4, 0);
        x.crash(2);
        Checks.due("suspect by another, not settled", x.suspect(4, 2), 0);
        Checks.told(x, 4, 1, 1, 0, 0, 0, 3);
        Checks.due("no other STATE", x.flying(4, 1), 1);
        x.suspect(1, 0);
        x.deliver(4, 1);
        x.suspect(1, 2);
        Checks.told(x, 1, 1, 1, 0, 0, 0, 2);
        x.suspect(1, 3);
        Checks.told(x, 1, 1, 1, 1, 0, 0, 3);
    }

    /** "A node SUSPECTS others, when it is told so": not by a crash, and not when others are told. */
    private static void whoSuspectsWhom() {
        for (int engine = 0; engine < 2; engine++) {
            Cast x = new Cast(3, engine);
            x.crash(0);
            for (int node = 0; node < 3; node++) {
                Checks.due("suspected", x.told(node, 5), 0);
            }
            x.suspect(2, 0);
            Checks.due("suspected by the one that is told", x.told(2, 5), 1);
            Checks.due("suspected by another", x.told(1, 5), 0);
            Checks.told(x, 1, 1, 0, 1, 0, 0, 0);
        }
    }

    /** "in one order (by numbers: those that do not crash ..), where nothing is lost". */
    private static void oneOrderOfThoseThatDoNotCrash() {
        Cast x = new Cast(3, 0);
        x.say(0, 1);
        x.say(0, 2);
        x.say(2, 3);
        x.deliver(0, 1);
        x.lose(0, 1);
        x.deliver(2, 0);
        x.lose(0, 1);
        Checks.row(x, 0, 0, 1, 2);
        x.crash(0);
        x.suspect(1, 0);
        x.suspect(2, 0);
        x.deliver(2, 1);
        x.say(1, 4);
        x.deliver(1, 2);
        x.deliver(2, 1);
        x.deliver(1, 2);
        x.deliver(1, 2);
        Checks.row(x, 1, 0, 3, 2);
        Checks.row(x, 2, 0, 3, 2);
        Checks.due("shared by those that do not crash", x.shared(1, 2), 3);
        Checks.due("shared with the one that crashed", x.shared(0, 1), 1);
    }
}
