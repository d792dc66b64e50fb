/** Promises 11, 20, 21 and 22: events, storing them, what a crash takes. */
public final class EventTest {
    private static final Check CHECK = new Check();

    public static void main(String[] args) {
        eventOfNone();
        twoAreStoredInATick();
        goneEventsGiveTheirPlaces();
        crashTakesWhatIsMeasured();
        crashTakesMessagesUnderWay();
        crashTakesDueMessages();
        crashTakesOrders();
        crashTakesWaitingAndShots();
        crashLeavesAllElse();
        crashWithoutRelays();
        twoHundredEvents();
        placesBelowTwoHundredAfterACrash();
        CHECK.end();
    }

    /** Relay 0 with seven below it that all trip in the first tick of their faults. */
    private static FeederRelays sevenAtOnce() {
        FeederRelays x = Check.star(8);
        x.settings(0, 0, 5000, 1000);
        for (int r = 1; r < 8; r++) {
            x.settings(r, 0, 100, 1);
            x.fault(r, 400);
        }
        return x;
    }

    private static void eventOfNone() {
        FeederRelays x = sevenAtOnce();
        CHECK.due("events() at first", x.events(), 0);
        CHECK.due("event(0) at first", x.event(0), -1);
        CHECK.due("when(0) at first", x.when(0), -1);
        x.run(1);
        CHECK.events("seven", x, 1, 1, 1, 1, 2, 1, 1, 3, 1, 1, 4, 1, 1, 5, 1, 1, 6, 1, 1, 7, 1);
        for (int i : new int[] {Integer.MIN_VALUE, -1, 7, 199, 200, 201, Integer.MAX_VALUE}) {
            CHECK.due("event(" + i + ")", x.event(i), -1);
            CHECK.due("when(" + i + ")", x.when(i), -1);
        }
    }

    private static void twoAreStoredInATick() {
        // 7 events at 1, none at 2, 14 more at 3; two are stored in each tick.
        int[] recorded = {0, 7, 7, 21, 21, 21, 21, 21, 21, 21, 21, 21, 21};
        for (int tick = 0; tick < recorded.length; tick++) {
            FeederRelays x = sevenAtOnce();
            Check.runTo(x, tick);
            int stored = Math.min(2 * tick, recorded[tick]);
            CHECK.due("events() at " + tick, x.events(), recorded[tick]);
            CHECK.due("crash() at " + tick, x.crash(), recorded[tick] - stored);
            CHECK.due("events() after a crash at " + tick, x.events(), stored);
            CHECK.due("crash() again at " + tick, x.crash(), 0);
            CHECK.due("event gone at " + tick, x.event(stored), -1);
            CHECK.due("when gone at " + tick, x.when(stored), -1);
            for (int i = 0; i < Math.min(stored, 7); i++) {
                CHECK.due("event(" + i + ") stored at " + tick, x.event(i), 1 + 8 * (i + 1));
                CHECK.due("when(" + i + ") stored at " + tick, x.when(i), 1);
            }
        }
        FeederRelays one = Check.chain(1);
        one.settings(0, 0, 100, 1);
        one.fault(0, 400);
        one.run(1);
        CHECK.due("the one that there is was stored", one.crash(), 0);
        CHECK.due("events() of one", one.events(), 1);
    }

    private static void goneEventsGiveTheirPlaces() {
        FeederRelays x = sevenAtOnce();
        x.run(1);
        CHECK.due("crash()", x.crash(), 5);
        x.run(1);
        CHECK.events("two old ones and seven new ones", x,
            1, 1, 1, 1, 2, 1, 1, 1, 2, 1, 2, 2, 1, 3, 2, 1, 4, 2, 1, 5, 2, 1, 6, 2, 1, 7, 2);
        CHECK.due("crash() after the next tick", x.crash(), 5);
        CHECK.events("four are stored", x, 1, 1, 1, 1, 2, 1, 1, 1, 2, 1, 2, 2);
    }

    private static FeederRelays slowPair(int lag) {
        FeederRelays x = Check.chain(2);
        x.settings(0, 1, 200, 1000);
        x.settings(1, 0, 100, 1000);
        x.options(0, true, 0, 50);
        x.line(1, lag);
        x.fault(1, 1000);
        return x;
    }

    private static void crashTakesWhatIsMeasured() {
        FeederRelays x = slowPair(1);
        x.run(3);
        CHECK.due("state(0) before", x.state(0), 1 + 2 + 64);
        x.crash();
        for (int r = 0; r < 2; r++) {
            CHECK.due("state", x.state(r), 1);
            CHECK.due("sum", x.sum(r), 0);
            CHECK.due("effective", x.effective(r), 0);
            CHECK.due("changes", x.changes(r), 0);
            CHECK.due("current stays", x.current(r), 1000);
        }
        CHECK.due("known", x.known(1), 0);
        int[] effective = {500, 707, 866, 1000};
        for (int want : effective) {
            x.run(1);
            CHECK.due("samples begin anew", x.effective(1), want);
        }
        CHECK.due("changes begin anew", x.changes(1), 1);
        CHECK.due("known begins anew", x.known(1), 3);
        CHECK.due("sum begins anew", x.sum(1), 4);
        x.crash();
        x.fault(1, 1);
        x.run(3);
        CHECK.due("every sample was 0", x.effective(1), 0);
    }

    private static void crashTakesMessagesUnderWay() {
        FeederRelays x = slowPair(4);
        x.run(3);
        x.crash();
        x.fault(1, 0);
        x.run(20);
        CHECK.due("messages under way are gone", x.known(1), 0);
    }

    private static void crashTakesDueMessages() {
        FeederRelays x = slowPair(1);
        x.run(5);
        x.fault(1, 0);
        x.crash();
        x.run(20);
        CHECK.due("no message is due", x.known(1), 0);
        CHECK.due("no change", x.changes(1), 0);
    }

    private static void crashTakesOrders() {
        FeederRelays x = Check.chain(1);
        x.settings(0, 0, 100, 1);
        x.fault(0, 1000);
        x.run(1);
        CHECK.due("with an order", x.state(0), 1 + 2 + 4);
        x.crash();
        CHECK.due("without an order", x.state(0), 1);
        x.fault(0, 0);
        x.run(20);
        CHECK.due("it did not open", x.state(0), 1);
        CHECK.events("only the stored order", x, 1, 0, 1);
    }

    private static void crashTakesWaitingAndShots() {
        FeederRelays x = Check.chain(1);
        x.settings(0, 0, 100, 1);
        x.options(0, false, 2, 50);
        x.fault(0, 1000);
        x.run(9);
        CHECK.due("used before", x.used(0), 1);
        x.crash();
        CHECK.due("used after", x.used(0), 0);
        CHECK.due("closed, not locked", x.state(0), 1);
        x.run(3);
        CHECK.due("waiting before", x.state(0), 2 + 8);
        x.crash();
        CHECK.due("open, locked", x.state(0), 16);
        x.run(20);
        CHECK.due("it does not close", x.state(0), 16);
        x.crash();
        CHECK.due("locked stays locked", x.state(0), 16);
    }

    private static void crashLeavesAllElse() {
        FeederRelays x = slowPair(3);
        x.load(0, 70);
        x.options(1, false, 1, 2);
        x.settings(1, 0, 100, 1);
        x.jam(1, true);
        x.run(2);
        x.crash();
        CHECK.due("time stays", x.time(), 2);
        CHECK.due("jam, breaker", x.state(1), 1 + 32);
        CHECK.due("load and fault", x.current(0), 1070);
        x.run(1);
        CHECK.due("kind and pickup stay", x.sum(0), 335);
        x.run(2);
        CHECK.events("time and patience stay", x, 1, 1, 1, 1, 1, 3, 6, 1, 5, 7, 0, 5);
        CHECK.due("lag, before", x.known(1), 0);
        x.jam(1, false);
        x.run(1);
        CHECK.due("lag, after", x.known(1), 3);
        CHECK.due("held back stays", x.state(0), 1 + 2 + 4 + 64);
        CHECK.due("shots stay", x.state(1), 2 + 8);
    }

    private static void crashWithoutRelays() {
        FeederRelays x = new FeederRelays();
        x.run(4);
        CHECK.due("crash()", x.crash(), 0);
        CHECK.due("time()", x.time(), 4);
    }

    private static void closeSeven(FeederRelays x) {
        for (int r = 1; r < 8; r++) {
            x.operate(r, true);
        }
    }

    /** Nine rounds of 7 orders, 7 openings and 7 locks: 189 events, all stored, at time 180. */
    private static FeederRelays nineRounds() {
        FeederRelays x = sevenAtOnce();
        for (int round = 0; round < 9; round++) {
            x.run(20);
            closeSeven(x);
        }
        return x;
    }

    private static void twoHundredEvents() {
        FeederRelays x = nineRounds();
        CHECK.due("events() after 9 rounds", x.events(), 189);
        x.run(1);
        CHECK.due("events() with 7 more", x.events(), 196);
        x.run(2);
        CHECK.due("events() at the end", x.events(), 200);
        CHECK.due("event(196)", x.event(196), 2 + 8);
        CHECK.due("event(197)", x.event(197), 5 + 8);
        CHECK.due("event(199)", x.event(199), 5 + 16);
        CHECK.due("when(199)", x.when(199), 183);
        CHECK.due("event(200)", x.event(200), -1);
        CHECK.due("when(200)", x.when(200), -1);
        CHECK.due("what is not recorded still happens", x.state(7), 2 + 16);
        x.run(20);
        CHECK.due("crash() when all are stored", x.crash(), 0);
        closeSeven(x);
        x.run(20);
        CHECK.due("no more than 200", x.events(), 200);
    }

    private static void placesBelowTwoHundredAfterACrash() {
        FeederRelays x = nineRounds();
        x.run(3);
        CHECK.due("events() at 183", x.events(), 200);
        CHECK.due("crash() with 6 of 11 stored", x.crash(), 5);
        CHECK.due("events() after it", x.events(), 195);
        closeSeven(x);
        x.run(1);
        CHECK.due("events() when 5 of 7 had a place", x.events(), 200);
        CHECK.due("event(199)", x.event(199), 1 + 8 * 5);
        CHECK.due("when(199)", x.when(199), 184);
    }
}
