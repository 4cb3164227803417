/** Clocks, and when a thing is heard by them: "Terms", by clocks, and promises 2, 3, 4 and 7. */
public final class EdgeClocksTest {
    public static void main(String[] args) {
        oneMoreEachTime();
        oneMoreThanTheGreater();
        timeOfTheThing();
        equalTimesByTheLesserSpeaker();
        laterIsAGreaterTime();
        laterIsTheSameTimeOfAGreaterNode();
        aThingIsSomethingLaterToo();
        theLatestIsWhatCame();
        itselfAndTheSpeakerAreNotAwaited();
        onesOwnThing();
        suspectedOnesAreNotAwaited();
        crashedOnesAreAwaited();
        sayingWhenNobodyIsAwaited();
        againAndAgain();
        whatFliesFromASuspectedOne();
        oneOrderWhenNothingFlies();
        sixtyAtOnce();
        whatIsLostIsNeverLater();
        Checks.end("edges: clocks");
    }

    /** "a node has a CLOCK, at first 0. Saying: it is 1 more", "HELLO: the clock is 1 more". */
    private static void oneMoreEachTime() {
        Cast x = new Cast(3, 1);
        Checks.told(x, 1, 1, 0);
        x.say(1, 5);
        Checks.told(x, 1, 1, 1);
        Checks.due("hello", x.hello(1), 2);
        Checks.told(x, 1, 1, 2);
        x.say(1, 5);
        Checks.told(x, 1, 1, 3);
        Checks.told(x, 0, 1, 0);
        Checks.told(x, 2, 1, 0);
    }

    /** "1 more than the greater of it and the one that comes": that is greater, equal, less. */
    private static void oneMoreThanTheGreater() {
        Cast x = new Cast(2, 1);
        x.hello(0);
        x.deliver(0, 1);
        Checks.told(x, 1, 1, 2);
        x.hello(0);
        x.deliver(0, 1);
        Checks.told(x, 1, 1, 3);
        x.hello(0);
        x.hello(1);
        Checks.told(x, 1, 1, 4);
        x.deliver(0, 1);
        Checks.told(x, 1, 1, 5);
        for (int i = 0; i < 6; i++) {
            x.hello(0);
        }
        for (int i = 0; i < 6; i++) {
            x.say(0, i);
        }
        for (int clock = 6; clock <= 15; clock++) {
            x.deliver(0, 1);
            Checks.told(x, 1, 1, clock);
        }
        x.deliver(0, 1);
        x.deliver(0, 1);
        Checks.told(x, 0, 1, 15);
        Checks.told(x, 1, 1, 17);
    }

    /** "the thing has its TIME from that": the speaker's clock when it is said, for good. */
    private static void timeOfTheThing() {
        Cast x = new Cast(2, 1);
        x.say(0, 5);
        x.deliver(0, 1);
        x.say(1, 6);
        x.hello(1);
        x.say(1, 7);
        Checks.due("time", x.thing(0, 2), 1);
        Checks.due("time behind the one that came", x.thing(1, 2), 3);
        Checks.due("time behind HELLO", x.thing(2, 2), 5);
        Checks.packet(x, 1, 0, 0, OrderedCast.SAID, 3, OrderedCast.NONE, 1);
        Checks.packet(x, 1, 0, 1, OrderedCast.HELLO, 4, OrderedCast.NONE, OrderedCast.NONE);
        Checks.packet(x, 1, 0, 2, OrderedCast.SAID, 5, OrderedCast.NONE, 2);
        x.deliver(1, 0);
        x.clear();
        x.say(1, 8);
        Checks.due("time after clear", x.thing(0, 2), 1);
    }

    /** "the thing with the least time (of equal ones the lesser speaker's)", whichever was said or came first. */
    private static void equalTimesByTheLesserSpeaker() {
        Cast x = new Cast(4, 1);
        x.say(2, 5);
        x.say(1, 6);
        x.say(0, 7);
        Checks.due("SAID of 2", x.deliver(2, 3), 0);
        Checks.due("SAID of 1", x.deliver(1, 3), 0);
        Checks.due("SAID of 0", x.deliver(0, 3), 1);
        Checks.row(x, 3, 2);
        x.hello(0);
        Checks.due("HELLO of 0", x.deliver(0, 3), 1);
        Checks.row(x, 3, 2, 1);
        x.hello(1);
        Checks.due("HELLO of 1", x.deliver(1, 3), 1);
        Checks.row(x, 3, 2, 1, 0);
    }

    /** Node 1 says a thing at time 3, and node 0 or 2 hears of node 2 or 0 at times 1, 2, 3, 4. */
    private static Cast thingAtThree(int hearer) {
        Cast x = new Cast(3, 1);
        x.hello(1);
        x.hello(1);
        x.say(1, 5);
        for (int i = 0; i < 4; i++) {
            x.hello(2 - hearer);
        }
        for (int i = 0; i < 3; i++) {
            Checks.due("SAID, and one not heard of yet", x.deliver(1, hearer), 0);
        }
        Checks.due("a lesser time", x.deliver(2 - hearer, hearer), 0);
        Checks.due("the time before", x.deliver(2 - hearer, hearer), 0);
        return x;
    }

    /** "something later than that (a greater time ..)": of a lesser node the same one is not later, the next is. */
    private static void laterIsAGreaterTime() {
        Cast x = thingAtThree(2);
        Checks.due("the same time of a lesser node", x.deliver(0, 2), 0);
        Checks.due("a greater time", x.deliver(0, 2), 1);
        Checks.row(x, 2, 0);
    }

    /** "or the same one of a greater node". */
    private static void laterIsTheSameTimeOfAGreaterNode() {
        Cast x = thingAtThree(0);
        Checks.due("the same time of a greater node", x.deliver(2, 0), 1);
        Checks.due("nothing more to hear", x.deliver(2, 0), 0);
        Checks.row(x, 0, 0);
    }

    /** "something later": a thing is something, as HELLO is. */
    private static void aThingIsSomethingLaterToo() {
        Cast x = new Cast(3, 1);
        x.say(0, 1);
        x.say(2, 2);
        Checks.due("SAID", x.deliver(0, 1), 0);
        Checks.due("SAID of the same time of a greater node", x.deliver(2, 1), 1);
        x.say(0, 3);
        Checks.due("SAID of a greater time", x.deliver(0, 1), 1);
        Checks.row(x, 1, 0, 1);
    }

    /** "that is the latest that was heard of that node": the time that came, not the clock that it made. */
    private static void theLatestIsWhatCame() {
        Cast x = new Cast(3, 1);
        for (int i = 0; i < 9; i++) {
            x.hello(1);
        }
        x.say(1, 5);
        x.hello(0);
        for (int i = 0; i < 10; i++) {
            x.deliver(1, 2);
        }
        Checks.told(x, 2, 1, 11);
        Checks.due("HELLO of time 1", x.deliver(0, 2), 0);
        Checks.told(x, 2, 1, 12);
        Checks.due("heard", x.heard(2), 0);
    }

    /** "from each node that it does not suspect, but itself and the speaker": of two nodes nobody is left. */
    private static void itselfAndTheSpeakerAreNotAwaited() {
        Cast x = new Cast(2, 1);
        for (int i = 0; i < 5; i++) {
            x.hello(0);
        }
        x.say(1, 5);
        Checks.due("SAID of a time long gone", x.deliver(1, 0), 1);
        Checks.due("its speaker has not heard it yet", x.heard(1), 0);
        Cast y = new Cast(3, 1);
        y.say(1, 5);
        y.hello(2);
        y.deliver(2, 0);
        Checks.due("SAID, when the third was heard", y.deliver(1, 0), 1);
    }

    /** One's own thing is heard when something later came from each other one. */
    private static void onesOwnThing() {
        Cast x = new Cast(3, 1);
        x.say(1, 5);
        x.hello(0);
        x.hello(0);
        x.hello(2);
        Checks.due("the same time of a lesser node", x.deliver(0, 1), 0);
        Checks.due("the same time of a greater node", x.deliver(2, 1), 0);
        Checks.due("a greater time of the lesser node", x.deliver(0, 1), 1);
        Checks.row(x, 1, 0);
    }

    /** "from each node that it does not suspect": told to suspect, it hears at once, and others do not. */
    private static void suspectedOnesAreNotAwaited() {
        Cast x = new Cast(4, 1);
        x.say(1, 5);
        x.deliver(1, 0);
        x.crash(2);
        x.crash(3);
        Checks.due("suspect one of two", x.suspect(0, 2), 0);
        Checks.due("suspect both", x.suspect(0, 3), 1);
        Checks.row(x, 0, 0);
        Checks.row(x, 1);
        Checks.due("heard by that: nothing more", x.suspect(1, 3), 0);
    }

    private static void crashedOnesAreAwaited() {
        Cast x = new Cast(3, 1);
        x.hello(2);
        x.hello(2);
        x.say(1, 5);
        x.crash(2);
        Checks.due("SAID", x.deliver(1, 0), 0);
        Checks.due("what flies from it still comes", x.deliver(2, 0), 1);
        x.say(1, 6);
        x.say(1, 7);
        Checks.due("SAID", x.deliver(1, 0), 0);
        Checks.due("the last of it", x.deliver(2, 0), 1);
        Checks.due("SAID", x.deliver(1, 0), 0);
        Checks.due("nothing flies from it, and it is awaited", x.flying(2, 0), 0);
        Checks.due("suspect", x.suspect(0, 2), 1);
    }

    /** All others are suspected: what it says it hears at once. */
    private static void sayingWhenNobodyIsAwaited() {
        Cast x = new Cast(3, 1);
        x.crash(0);
        x.crash(2);
        x.suspect(1, 0);
        x.say(1, 5);
        Checks.row(x, 1);
        Checks.due("suspect", x.suspect(1, 2), 1);
        x.say(1, 6);
        Checks.row(x, 1, 0, 1);
        Checks.due("it flies to them all the same", x.flying(1, 0) + x.flying(1, 2), 4);
    }

    /** "again and again": one packet, and all that were waiting for it up to its time. */
    private static void againAndAgain() {
        Cast x = new Cast(3, 1);
        for (int i = 0; i < 5; i++) {
            x.say(0, i);
            x.deliver(0, 1);
        }
        x.hello(2);
        x.hello(2);
        x.hello(2);
        x.deliver(2, 1);
        x.deliver(2, 1);
        Checks.due("HELLO of time 3", x.deliver(2, 1), 1);
        Checks.row(x, 1, 0, 1, 2);
        for (int i = 0; i < 5; i++) {
            x.deliver(0, 2);
        }
        Checks.due("hello", x.hello(2), 9);
        Checks.due("HELLO of time 9", x.deliver(2, 1), 2);
        Checks.row(x, 1, 0, 1, 2, 3, 4);
    }

    /** "what flies from it still comes": it is heard, behind what was heard when it was suspected. */
    private static void whatFliesFromASuspectedOne() {
        Cast x = new Cast(3, 1);
        x.say(2, 5);
        x.hello(1);
        x.say(1, 6);
        x.say(1, 7);
        x.crash(2);
        x.deliver(1, 0);
        Checks.due("SAID", x.deliver(1, 0), 0);
        Checks.due("suspect", x.suspect(0, 2), 1);
        Checks.due("SAID of the suspected one", x.deliver(2, 0), 1);
        Checks.row(x, 0, 1, 0);
        Checks.due("SAID", x.deliver(1, 0), 1);
        Checks.row(x, 0, 1, 0, 2);
        x.deliver(2, 1);
        Checks.due("suspect, when all has come", x.suspect(1, 2), 0);
        x.hello(0);
        Checks.due("HELLO", x.deliver(0, 1), 3);
        Checks.row(x, 1, 0, 1, 2);
        Checks.due("so the orders differ", x.shared(0, 1), 0);
    }

    /** "as long as nobody is suspected from whom something still flies": when all has come, the order is one. */
    private static void oneOrderWhenNothingFlies() {
        Cast x = new Cast(3, 1);
        x.say(1, 6);
        x.say(2, 5);
        x.crash(2);
        x.deliver(2, 0);
        x.deliver(2, 1);
        Checks.due("SAID", x.deliver(1, 0), 1);
        Checks.due("suspect", x.suspect(0, 2), 0);
        x.hello(1);
        Checks.due("HELLO", x.deliver(1, 0), 1);
        Checks.due("suspect", x.suspect(1, 2), 0);
        x.hello(0);
        Checks.due("HELLO", x.deliver(0, 1), 2);
        Checks.row(x, 0, 0, 1);
        Checks.row(x, 1, 0, 1);
        Checks.due("shared", x.shared(0, 1), 2);
    }

    /** All 60 things are heard by one call, when they were all waiting. */
    private static void sixtyAtOnce() {
        Cast x = new Cast(2, 1);
        for (int i = 0; i < 60; i++) {
            x.say(0, i);
        }
        Checks.due("heard", x.heard(0), 0);
        x.crash(1);
        Checks.due("suspect", x.suspect(0, 1), 60);
        Checks.due("the first", x.at(0, 0), 0);
        Checks.due("the last", x.at(0, 59), 59);
        Cast y = new Cast(3, 1);
        for (int i = 0; i < 60; i++) {
            y.say(0, i);
            y.deliver(0, 1);
            y.deliver(0, 2);
        }
        Checks.due("hello", y.hello(2), 62);
        Checks.due("HELLO", y.deliver(2, 1), 60);
        Checks.due("the last", y.at(1, 59), 59);
    }

    /** "(more are lost)": what did not find room is not the latest that was heard. */
    private static void whatIsLostIsNeverLater() {
        Cast x = new Cast(3, 1);
        for (int i = 0; i < 40; i++) {
            x.hello(0);
            x.hello(1);
            x.deliver(1, 2);
        }
        x.say(1, 5);
        Checks.due("SAID of time 41", x.deliver(1, 2), 0);
        Checks.due("hello of time 41, lost", x.hello(0), 41);
        Checks.due("hello of time 42, lost", x.hello(0), 42);
        for (int i = 0; i < 40; i++) {
            Checks.due("HELLO", x.deliver(0, 2), 0);
        }
        Checks.due("no more", x.deliver(0, 2), OrderedCast.NONE);
        Checks.due("hello", x.hello(0), 43);
        Checks.due("HELLO of time 43", x.deliver(0, 2), 1);
    }
}
