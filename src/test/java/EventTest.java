/** Promises 20, 21 and 22: events, storing them two in a tick, and the 200 that there are at most. */
public final class EventTest {
    private static final Check CHECK = new Check();

    public static void main(String[] args) {
        noEvents();
        eventOfNone();
        orderOfEventsInATick();
        noneOneTwoOrMoreToStore();
        theOldestAreStoredFirst();
        storedInTheTickThatRecords();
        twoAreStoredInATick();
        goneEventsGiveTheirPlaces();
        noEventByHand();
        twoHundredEvents();
        theTwoHundredthInATickOfTwo();
        exactlyTwoHundred();
        theTwoHundredStayAsTheyAre();
        placesBelowTwoHundredAfterACrash();
        CHECK.end();
    }

    private static void noEvents() {
        FeederRelays x = Check.chain(8);
        CHECK.events("at first", x);
        x.run(20);
        CHECK.events("without a fault", x);
        CHECK.due("nothing to take", x.crash(), 0);
        CHECK.events("after a crash", x);
    }

    // "-1 when there is none"
    private static void eventOfNone() {
        FeederRelays x = Scenes.manyAtOnce(7);
        CHECK.due("events() at first", x.events(), 0);
        CHECK.due("event(0) at first", x.event(0), -1);
        CHECK.due("when(0) at first", x.when(0), -1);
        x.run(1);
        CHECK.events("seven", x, 1, 1, 1, 1, 2, 1, 1, 3, 1, 1, 4, 1, 1, 5, 1, 1, 6, 1, 1, 7, 1);
        for (int i : new int[] {Integer.MIN_VALUE, -1, 7, 199, 200, 201, Integer.MAX_VALUE}) {
            CHECK.due("event(" + i + ")", x.event(i), -1);
            CHECK.due("when(" + i + ")", x.when(i), -1);
        }
    }

    // "each of these for all relays, from 0 up, before the next one"
    private static void orderOfEventsInATick() {
        FeederRelays x = Check.star(4);
        x.settings(0, 0, 5000, 1000);
        for (int r = 1; r < 4; r++) {
            x.settings(r, 0, 100, r == 1 ? 3 : 1);
            x.options(r, false, r == 3 ? 1 : 0, 2);
            x.fault(r, 400);
        }
        x.jam(2, true);
        x.run(3);
        CHECK.events("breakers, tripping, failing", x,
            1, 2, 1, 1, 3, 1, 2, 3, 3, 1, 1, 3, 6, 2, 3, 7, 0, 3);
    }

    /** So many orders in tick 1, and nothing more for ten ticks. */
    private static FeederRelays jammedAtOnce(int orders) {
        FeederRelays x = Scenes.manyAtOnce(orders);
        for (int r = 1; r <= orders; r++) {
            x.jam(r, true);
        }
        return x;
    }

    // "of the events that are not stored the two oldest ones (or the one that there is) are stored"
    private static void noneOneTwoOrMoreToStore() {
        for (int orders = 0; orders <= 7; orders++) {
            for (int ticks = 1; ticks <= 5; ticks++) {
                FeederRelays x = jammedAtOnce(orders);
                x.run(ticks);
                CHECK.due("events()", x.events(), orders);
                int left = Math.max(0, orders - 2 * ticks);
                CHECK.due("crash() of " + orders + " after " + ticks, x.crash(), left);
                CHECK.due("events() of " + orders + " after " + ticks, x.events(), orders - left);
                CHECK.due("crash() again", x.crash(), 0);
                CHECK.due("events() again", x.events(), orders - left);
            }
        }
    }

    private static void theOldestAreStoredFirst() {
        FeederRelays x = jammedAtOnce(3);
        x.run(1);
        CHECK.due("one is not stored", x.crash(), 1);
        CHECK.events("the first two of three", x, 1, 1, 1, 1, 2, 1);
        FeederRelays y = jammedAtOnce(5);
        y.run(2);
        CHECK.due("one of five is not stored", y.crash(), 1);
        CHECK.events("the first four of five", y, 1, 1, 1, 1, 2, 1, 1, 3, 1, 1, 4, 1);
    }

    private static void storedInTheTickThatRecords() {
        FeederRelays x = Check.star(3);
        x.settings(0, 0, 5000, 1000);
        x.settings(1, 0, 100, 1);
        x.settings(2, 0, 100, 2);
        x.fault(1, 400);
        x.fault(2, 400);
        x.run(1);
        CHECK.due("events() at 1", x.events(), 1);
        x.run(1);
        CHECK.due("events() at 2", x.events(), 2);
        CHECK.due("the second one is stored at 2", x.crash(), 0);
        CHECK.events("both", x, 1, 1, 1, 1, 2, 2);
    }

    private static void twoAreStoredInATick() {
        // 7 events at 1, none at 2, 14 more at 3; two are stored in each tick.
        int[] recorded = {0, 7, 7, 21, 21, 21, 21, 21, 21, 21, 21, 21, 21};
        for (int tick = 0; tick < recorded.length; tick++) {
            FeederRelays x = Scenes.manyAtOnce(7);
            Check.runTo(x, tick);
            int stored = Math.min(2 * tick, recorded[tick]);
            CHECK.due("events() at " + tick, x.events(), recorded[tick]);
            CHECK.due("crash() at " + tick, x.crash(), recorded[tick] - stored);
            CHECK.due("events() after a crash at " + tick, x.events(), stored);
            CHECK.due("event gone at " + tick, x.event(stored), -1);
            CHECK.due("when gone at " + tick, x.when(stored), -1);
            for (int i = 0; i < Math.min(stored, 7); i++) {
                CHECK.due("event(" + i + ") stored at " + tick, x.event(i), 1 + 8 * (i + 1));
                CHECK.due("when(" + i + ") stored at " + tick, x.when(i), 1);
            }
        }
    }

    private static void goneEventsGiveTheirPlaces() {
        FeederRelays x = Scenes.manyAtOnce(7);
        x.run(1);
        CHECK.due("crash()", x.crash(), 5);
        x.run(1);
        CHECK.events("two old ones and seven new ones", x,
            1, 1, 1, 1, 2, 1, 1, 1, 2, 1, 2, 2, 1, 3, 2, 1, 4, 2, 1, 5, 2, 1, 6, 2, 1, 7, 2);
        CHECK.due("crash() after the next tick", x.crash(), 5);
        CHECK.events("four are stored", x, 1, 1, 1, 1, 2, 1, 1, 1, 2, 1, 2, 2);
    }

    // "(No event.)"
    private static void noEventByHand() {
        FeederRelays x = Check.chain(2);
        x.operate(1, false);
        x.operate(1, true);
        x.operate(0, false);
        x.run(20);
        CHECK.events("by hand", x);
    }

    // "When 200 were recorded no more are."
    private static void twoHundredEvents() {
        FeederRelays x = Scenes.nineRounds();
        CHECK.due("events() after 9 rounds", x.events(), 189);
        x.run(1);
        CHECK.due("events() with 7 more", x.events(), 196);
        x.run(2);
        CHECK.due("events() at the end", x.events(), 200);
        CHECK.due("event(196)", x.event(196), 2 + 8);
        CHECK.due("event(197)", x.event(197), 5 + 8);
        CHECK.due("event(199)", x.event(199), 5 + 16);
        CHECK.due("when(199)", x.when(199), 183);
        CHECK.due("event(200)", x.event(200), -1);
        CHECK.due("when(200)", x.when(200), -1);
        CHECK.due("what is not recorded still happens", x.state(7), 2 + 16);
        x.run(20);
        CHECK.due("crash() when all are stored", x.crash(), 0);
        Scenes.closeSeven(x);
        x.run(20);
        CHECK.due("no more than 200", x.events(), 200);
    }

    /** One relay, 66 times tripped, opened, locked and closed by hand: 198 events, all stored, at time 198. */
    private static FeederRelays sixtySixRounds() {
        FeederRelays x = Scenes.quick(0);
        for (int round = 0; round < 66; round++) {
            x.run(3);
            x.operate(0, true);
        }
        return x;
    }

    private static void theTwoHundredthInATickOfTwo() {
        FeederRelays x = sixtySixRounds();
        CHECK.due("events() at 198", x.events(), 198);
        x.run(1);
        CHECK.due("events() at 199", x.events(), 199);
        CHECK.due("event(198)", x.event(198), 1);
        CHECK.due("event(199) yet", x.event(199), -1);
        x.run(2);
        CHECK.due("events() at 201", x.events(), 200);
        CHECK.due("event(199), opened", x.event(199), 2);
        CHECK.due("when(199)", x.when(199), 201);
        CHECK.due("event(200), locked", x.event(200), -1);
        CHECK.due("when(200)", x.when(200), -1);
        CHECK.due("locked all the same", x.state(0), 2 + 16);
        CHECK.due("all are stored", x.crash(), 0);
        CHECK.due("events() after the crash", x.events(), 200);
    }

    private static void exactlyTwoHundred() {
        FeederRelays x = sixtySixRounds();
        x.options(0, false, 1, 50);
        x.run(3);
        CHECK.due("ordered and opened", x.events(), 200);
        CHECK.due("waiting", x.state(0), 2 + 8);
        x.run(5);
        CHECK.due("closed without an event", x.state(0), 1 + 2 + 4);
        CHECK.due("a shot used without an event", x.used(0), 1);
        CHECK.due("no more events", x.events(), 200);
        CHECK.due("the last one", x.event(199), 2);
        CHECK.due("crash() takes none", x.crash(), 0);
    }

    private static void theTwoHundredStayAsTheyAre() {
        for (int first = 0; first < 200; first += 100) {
            FeederRelays x = Scenes.nineRounds();
            for (int round = 0; round < 5; round++) {
                x.run(20);
                Scenes.closeSeven(x);
            }
            CHECK.due("events() after more than 200", x.events(), 200);
            for (int i = first; i < first + 100; i++) {
                CHECK.due("event(" + i + ")", x.event(i), eventOfTheRounds(i));
                CHECK.due("when(" + i + ")", x.when(i), 20 * (i / 21) + (i % 21 < 7 ? 1 : 3));
            }
        }
    }

    /** In each round seven trip, and then each of them is opened and locked. */
    private static int eventOfTheRounds(int i) {
        int inRound = i % 21;
        if (inRound < 7) {
            return 1 + 8 * (inRound + 1);
        }
        int relay = (inRound - 7) / 2 + 1;
        return (inRound % 2 == 1 ? 2 : 5) + 8 * relay;
    }

    private static void placesBelowTwoHundredAfterACrash() {
        FeederRelays x = Scenes.nineRounds();
        x.run(3);
        CHECK.due("events() at 183", x.events(), 200);
        CHECK.due("crash() with 6 of 11 stored", x.crash(), 5);
        CHECK.due("events() after it", x.events(), 195);
        Scenes.closeSeven(x);
        x.run(1);
        CHECK.due("events() when 5 of 7 had a place", x.events(), 200);
        CHECK.due("event(199)", x.event(199), 1 + 8 * 5);
        CHECK.due("when(199)", x.when(199), 184);
    }
}
