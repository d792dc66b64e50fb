/** The first and the last tick at which something is so; each test names the document's words. */
public final class TickEdgeTest {
    private static final Check CHECK = new Check();

    public static void main(String[] args) {
        ownOrderOfTwoTicksAgo();
        orderFromBelowOfTwoTicksAgo();
        jammedOrNotWhenTwoTicksAreOver();
        lessShotsUsedThanItHas();
        waitingUntilFiveTwentyOrFifty();
        reclaimThirtyTicksFromClosing();
        reclaimFromTheLatestClosing();
        reclaimWithAnOrderJustBefore();
        reclaimJammed();
        orderAsLongAgoAsThePatience();
        patienceSetWhileItHasAnOrder();
        openBeforeItCanFail();
        blockedUntilTwelveTicksAgo();
        sameNumberCameLastNow();
        smallerNumberDoesNothing();
        blockedByTheOneThatIsFresh();
        tripsWhenTheMessageIsTooOld();
        twiceAsManyTicksLater();
        changeInsteadOfTheOneDue();
        aMessageInEachTick();
        allComeInOneTick();
        lagThatTheLineHasThen();
        sampleOfFourTicks();
        wholeNumbersOfTheEffectiveCurrent();
        greaterThanThePickup();
        sumAtLeastTheLimit();
        noOrderForAnOpenBreaker();
        CHECK.end();
    }

    // "an order of at least 2 ticks ago"
    private static void ownOrderOfTwoTicksAgo() {
        FeederRelays x = Scenes.quick(0);
        x.run(1);
        CHECK.due("order now", x.state(0), 1 + 2 + 4);
        x.run(1);
        CHECK.due("order 1 tick ago", x.state(0), 1 + 2 + 4);
        x.run(1);
        CHECK.due("order 2 ticks ago", x.state(0), 2 + 16);
        CHECK.events("opened at 3", x, 1, 0, 1, 2, 0, 3, 5, 0, 3);
    }

    private static void orderFromBelowOfTwoTicksAgo() {
        FeederRelays x = Scenes.pair(4);
        x.jam(1, true);
        x.run(5);
        CHECK.due("order from below now", x.state(0), 1 + 4);
        x.run(1);
        CHECK.due("order from below 1 tick ago", x.state(0), 1 + 4);
        x.run(1);
        CHECK.due("order from below 2 ticks ago", x.state(0), 16);
    }

    // "and its breaker is not jammed"
    private static void jammedOrNotWhenTwoTicksAreOver() {
        FeederRelays x = Scenes.quick(0);
        x.run(2);
        x.jam(0, true);
        x.run(1);
        CHECK.due("jammed just before", x.state(0), 1 + 2 + 4 + 32);
        x.jam(0, false);
        x.run(1);
        CHECK.due("free a tick later", x.state(0), 2 + 16);
        FeederRelays y = Scenes.quick(0);
        y.jam(0, true);
        y.run(2);
        y.jam(0, false);
        y.run(1);
        CHECK.due("free just before", y.state(0), 2 + 16);
    }

    // "it has used less shots than it has": one less is waiting, as many or more is locked
    private static void lessShotsUsedThanItHas() {
        int[] opensAt = {3, 10, 32, 84};
        for (int used = 0; used <= 3; used++) {
            for (int shots = 0; shots <= 3; shots++) {
                FeederRelays x = Scenes.quick(3);
                Check.runTo(x, opensAt[used] - 1);
                x.options(0, false, shots, 50);
                CHECK.due("used before", x.used(0), used);
                x.run(1);
                CHECK.due("used " + used + " of " + shots, x.state(0), 2 + (used < shots ? 8 : 16));
                CHECK.due("used stays", x.used(0), used);
            }
        }
    }

    // "until 5, 20 or 50 ticks from now, for 0, 1, 2 shots used"
    private static void waitingUntilFiveTwentyOrFifty() {
        int[] opensAt = {3, 10, 32};
        int[] pauses = {5, 20, 50};
        for (int used = 0; used < 3; used++) {
            FeederRelays x = Scenes.quick(3);
            Check.runTo(x, opensAt[used]);
            int events = x.events();
            x.fault(0, 0);
            Check.runTo(x, opensAt[used] + 4);
            CHECK.due("waiting at first with " + used + " used", x.state(0), 8);
            Check.runTo(x, opensAt[used] + pauses[used] - 1);
            CHECK.due("waiting at the last with " + used + " used", x.state(0), 8);
            CHECK.due("used at the last with " + used + " used", x.used(0), used);
            CHECK.due("no event while waiting", x.events(), events);
            x.run(1);
            CHECK.due("closed with " + used + " used", x.state(0), 1);
            CHECK.due("one more than " + used, x.used(0), used + 1);
            CHECK.due("the event of closing", x.event(events), 3);
            CHECK.due("the time of closing", x.when(events), opensAt[used] + pauses[used]);
        }
    }

    /** Closed again at 8 with one shot used, and no fault any more. */
    private static FeederRelays closedAtEight(int shots) {
        FeederRelays x = Scenes.quick(shots);
        x.run(3);
        x.fault(0, 0);
        x.run(5);
        return x;
    }

    // "is to RECLAIM 30 ticks from now"
    private static void reclaimThirtyTicksFromClosing() {
        FeederRelays x = closedAtEight(1);
        CHECK.due("used at 8", x.used(0), 1);
        Check.runTo(x, 37);
        CHECK.due("used after 29 ticks", x.used(0), 1);
        CHECK.events("after 29 ticks", x, 1, 0, 1, 2, 0, 3, 3, 0, 8);
        x.run(1);
        CHECK.due("used after 30 ticks", x.used(0), 0);
        Check.runTo(x, 100);
        CHECK.events("reclaimed once", x, 1, 0, 1, 2, 0, 3, 3, 0, 8, 4, 0, 38);
    }

    private static void reclaimFromTheLatestClosing() {
        FeederRelays x = Scenes.quick(2);
        Check.runTo(x, 10);
        x.fault(0, 0);
        Check.runTo(x, 30);
        CHECK.due("used at the second closing", x.used(0), 2);
        Check.runTo(x, 59);
        CHECK.due("used 29 ticks after it", x.used(0), 2);
        x.run(1);
        CHECK.due("used 30 ticks after it", x.used(0), 0);
        CHECK.due("the event", x.event(x.events() - 1), 4);
        CHECK.due("its time", x.when(x.events() - 1), 60);
    }

    // "it has no order, and the time to reclaim has come": an order 2, 1 and 0 ticks before that
    private static void reclaimWithAnOrderJustBefore() {
        FeederRelays opens = closedAtEight(3);
        Check.runTo(opens, 35);
        opens.fault(0, 1000);
        Check.runTo(opens, 38);
        CHECK.due("it opens instead", opens.state(0), 2 + 8);
        CHECK.due("used stays", opens.used(0), 1);
        CHECK.events("order at 36", opens, 1, 0, 1, 2, 0, 3, 3, 0, 8, 1, 0, 36, 2, 0, 38);

        FeederRelays ordered = closedAtEight(3);
        Check.runTo(ordered, 36);
        ordered.fault(0, 1000);
        Check.runTo(ordered, 38);
        CHECK.due("it has an order", ordered.state(0), 1 + 2 + 4);
        CHECK.due("used stays with an order", ordered.used(0), 1);
        Check.runTo(ordered, 59);
        CHECK.events("order at 37", ordered, 1, 0, 1, 2, 0, 3, 3, 0, 8, 1, 0, 37, 2, 0, 39, 3, 0, 59, 1, 0, 59);

        FeederRelays reclaimed = closedAtEight(3);
        Check.runTo(reclaimed, 37);
        reclaimed.fault(0, 1000);
        Check.runTo(reclaimed, 45);
        CHECK.events("order at 38", reclaimed,
            1, 0, 1, 2, 0, 3, 3, 0, 8, 4, 0, 38, 1, 0, 38, 2, 0, 40, 3, 0, 45, 1, 0, 45);
    }

    private static void reclaimJammed() {
        FeederRelays x = closedAtEight(1);
        x.jam(0, true);
        Check.runTo(x, 37);
        CHECK.due("used at 37", x.used(0), 1);
        x.run(1);
        CHECK.due("used at 38", x.used(0), 0);
    }

    // "an order of at least as many ticks ago as its patience"
    private static void orderAsLongAgoAsThePatience() {
        for (int patience = 1; patience <= 50; patience++) {
            FeederRelays x = Scenes.pair(patience);
            x.jam(1, true);
            Check.runTo(x, patience);
            CHECK.events("a tick before patience " + patience, x, 1, 1, 1);
            CHECK.due("the one above before", x.state(0), 1);
            x.run(1);
            CHECK.events("at patience " + patience, x, 1, 1, 1, 6, 1, 1 + patience, 7, 0, 1 + patience);
            CHECK.due("the one above then", x.state(0), 1 + 4);
        }
    }

    private static void patienceSetWhileItHasAnOrder() {
        int[][] patienceFails = {{1, 11}, {10, 11}, {11, 12}, {20, 21}};
        for (int[] row : patienceFails) {
            FeederRelays x = Scenes.pair(50);
            x.jam(1, true);
            x.run(10);
            x.options(1, false, 0, row[0]);
            Check.runTo(x, row[1] - 1);
            CHECK.events("before, with patience " + row[0], x, 1, 1, 1);
            x.run(1);
            CHECK.events("with patience " + row[0], x, 1, 1, 1, 6, 1, row[1], 7, 0, row[1]);
        }
    }

    private static void openBeforeItCanFail() {
        FeederRelays x = Scenes.pair(2);
        x.run(20);
        CHECK.events("patience 2: open in that tick, no order left", x, 1, 1, 1, 2, 1, 3, 5, 1, 3);
        FeederRelays y = Scenes.pair(1);
        y.run(2);
        CHECK.events("patience 1: fails a tick before", y, 1, 1, 1, 6, 1, 2, 7, 0, 2);
    }

    // "from a message that came at most 12 ticks ago"
    private static void blockedUntilTwelveTicksAgo() {
        FeederRelays x = Scenes.heldPair(1);
        x.fault(1, 1000);
        x.run(1);
        CHECK.due("the message is under way", x.state(0), 1);
        x.line(1, 0);
        for (int ago = 0; ago <= 20; ago++) {
            x.run(1);
            CHECK.due("came " + ago + " ticks ago", x.state(0), ago <= 12 ? 1 + 64 : 1);
            CHECK.due("known all the time", x.known(1), 3);
        }
    }

    // "if the number is the same, it came last now"
    private static void sameNumberCameLastNow() {
        FeederRelays x = Scenes.heldPair(1);
        x.fault(1, 1000);
        x.run(1);
        x.line(1, 0);
        Check.runTo(x, 15);
        CHECK.due("the first one is too old", x.state(0), 1);
        // The repeats are sent at 2, 4, 8 and 16; only the last one comes.
        x.line(1, 1);
        x.run(1);
        x.line(1, 0);
        CHECK.due("the repeat is under way", x.state(0), 1);
        x.run(1);
        CHECK.due("the repeat came", x.state(0), 1 + 64);
        Check.runTo(x, 29);
        CHECK.due("the repeat came 12 ticks ago", x.state(0), 1 + 64);
        x.run(1);
        CHECK.due("the repeat came 13 ticks ago", x.state(0), 1);
    }

    // "otherwise nothing is done"
    private static void smallerNumberDoesNothing() {
        FeederRelays x = Scenes.heldPair(8);
        x.fault(1, 1000);
        x.run(1);
        x.line(1, 1);
        x.settings(1, 0, 5000, 1000);
        x.run(1);
        x.settings(1, 0, 100, 1000);
        x.run(1);
        x.line(1, 0);
        x.run(1);
        CHECK.due("number 3 came at 4", x.known(1), 7);
        Check.runTo(x, 9);
        CHECK.due("number 1 came at 9", x.known(1), 7);
        Check.runTo(x, 16);
        CHECK.due("12 ticks after number 3", x.state(0), 1 + 64);
        x.run(1);
        CHECK.due("13 ticks after number 3, 8 after number 1", x.state(0), 1);
    }

    private static void blockedByTheOneThatIsFresh() {
        FeederRelays x = Check.star(3);
        x.settings(0, 0, 5000, 1000);
        x.options(0, true, 0, 50);
        for (int r = 1; r <= 2; r++) {
            x.settings(r, 0, 100, 1000);
        }
        x.fault(1, 1000);
        x.run(1);
        x.line(1, 0);
        x.fault(2, 1000);
        x.run(1);
        x.line(2, 0);
        Check.runTo(x, 15);
        CHECK.due("13 ticks after 1's, 12 after 2's", x.state(0), 1 + 64);
        x.run(1);
        CHECK.due("13 ticks after 2's", x.state(0), 1);
    }

    // "and it is not blocked: it has an order of its own from now on"
    private static void tripsWhenTheMessageIsTooOld() {
        FeederRelays x = Check.chain(2);
        x.settings(0, 0, 100, 2);
        x.settings(1, 0, 100, 1000);
        x.options(0, true, 0, 50);
        x.fault(1, 1000);
        x.run(1);
        x.line(1, 0);
        Check.runTo(x, 14);
        CHECK.events("at the limit since 2, blocked since 2", x);
        x.run(1);
        CHECK.events("not blocked at 15", x, 1, 0, 15);

        FeederRelays y = Check.chain(2);
        y.settings(0, 0, 100, 1);
        y.settings(1, 0, 100, 1000);
        y.options(0, true, 0, 50);
        y.fault(1, 1000);
        y.run(1);
        CHECK.events("at the limit a tick before the message comes", y, 1, 0, 1);
    }

    /** What is known of relay 1 if its line is whole in one tick alone. */
    private static int knownOfOneSentAt(FeederRelays x, int tick) {
        Check.runTo(x, tick - 1);
        x.line(1, 1);
        x.run(1);
        x.line(1, 0);
        x.run(1);
        return x.known(1);
    }

    // "due 1 tick later", "due twice as many ticks later as this one was after the one before, but at most 8"
    private static void twiceAsManyTicksLater() {
        for (int tick = 1; tick <= 50; tick++) {
            FeederRelays x = Scenes.heldPair(0);
            x.fault(1, 1000);
            boolean sends = tick <= 2 || tick == 4 || tick % 8 == 0;
            CHECK.due("known of a message sent at " + tick, knownOfOneSentAt(x, tick), sends ? 3 : 0);
        }
    }

    // "If that is another state than before .. the next one is due 1 tick later", also when one was due
    private static void changeInsteadOfTheOneDue() {
        for (int change : new int[] {2, 3, 4, 16}) {
            for (int after = 0; after <= 30; after++) {
                FeederRelays x = Scenes.heldPair(0);
                x.fault(1, 1000);
                Check.runTo(x, change - 1);
                x.settings(1, 0, 5000, 1000);
                boolean sends = after <= 1 || after == 3 || after == 7 || after == 15 || after == 23;
                CHECK.due("known of one " + after + " ticks after the change at " + change,
                    knownOfOneSentAt(x, change + after), sends ? 4 : 0);
            }
        }
    }

    /** Lets relay 1 change in the next tick. */
    private static void change(FeederRelays x) {
        x.settings(1, 0, x.changes(1) % 2 == 0 ? 100 : 5000, 1000);
        x.run(1);
    }

    // Each message is under way for the longest time, eight of them at once.
    private static void aMessageInEachTick() {
        FeederRelays x = Scenes.heldPair(8);
        x.fault(1, 1000);
        for (int tick = 1; tick <= 40; tick++) {
            change(x);
            CHECK.due("changes at " + tick, x.changes(1), tick);
            int number = Math.max(0, tick - 8);
            CHECK.due("known at " + tick, x.known(1), 2 * number + number % 2);
        }
    }

    private static void allComeInOneTick() {
        FeederRelays x = Scenes.heldPair(8);
        x.fault(1, 1000);
        for (int lag = 8; lag >= 1; lag--) {
            x.line(1, lag);
            change(x);
            CHECK.due("known after lag " + lag, x.known(1), 0);
        }
        x.run(1);
        CHECK.due("known when all eight came", x.known(1), 2 * 8);
    }

    // "comes at that time plus the lag that the line has then; if the line is cut then, it never comes"
    private static void lagThatTheLineHasThen() {
        for (int lag = 1; lag <= 8; lag++) {
            for (int later = 0; later <= 8; later++) {
                FeederRelays x = Scenes.heldPair(lag);
                x.fault(1, 1000);
                x.run(1);
                // Number 2 is sent at 2, when the line is cut, and at 3 with the later lag.
                x.line(1, 0);
                change(x);
                x.line(1, later);
                for (int tick = 2; tick <= 12; tick++) {
                    boolean second = later > 0 && tick >= 3 + later;
                    boolean first = tick >= 1 + lag;
                    CHECK.due("known at " + tick + " with lag " + lag + ", then " + later,
                        x.known(1), second ? 4 : first ? 3 : 0);
                    x.run(1);
                }
            }
        }
        FeederRelays cut = Scenes.heldPair(0);
        cut.fault(1, 1000);
        cut.run(1);
        cut.line(1, 1);
        cut.settings(1, 0, 5000, 1000);
        cut.run(1);
        CHECK.due("sent when cut, nothing comes when whole", cut.known(1), 0);
        cut.run(1);
        CHECK.due("the next one comes", cut.known(1), 4);
    }

    // "its latest four SAMPLES (each 0 at first)": one of 400 counts in four ticks
    private static void sampleOfFourTicks() {
        FeederRelays x = Check.chain(1);
        x.load(0, 400);
        x.run(1);
        x.load(0, 0);
        for (int tick = 1; tick <= 6; tick++) {
            CHECK.due("effective at " + tick, x.effective(0), tick <= 4 ? 200 : 0);
            x.run(1);
        }
    }

    // "the greatest whole number e for which 4 * e * e is at most the sum of the squares of the four"
    private static void wholeNumbersOfTheEffectiveCurrent() {
        int[][] samplesEffective = {
            {0, 0, 0, 1, 0}, {1, 1, 1, 0, 0}, {1, 1, 1, 1, 1}, {2, 0, 0, 0, 1}, {3, 2, 1, 1, 1},
            {4, 0, 0, 0, 2}, {0, 1, 4, 0, 2}, {200, 0, 0, 0, 100}, {199, 19, 6, 1, 99}, {199, 20, 0, 0, 100},
            {22000, 22000, 22000, 22000, 22000}, {22000, 22000, 22000, 21999, 21999}, {22000, 0, 0, 0, 11000}};
        for (int[] row : samplesEffective) {
            FeederRelays x = Check.chain(1);
            x.settings(0, 0, 5000, 1000);
            for (int i = 0; i < 4; i++) {
                x.load(0, Math.min(2000, row[i]));
                x.fault(0, row[i] - Math.min(2000, row[i]));
                x.run(1);
            }
            CHECK.due("effective of " + row[0] + " " + row[1] + " " + row[2] + " " + row[3], x.effective(0), row[4]);
        }
    }

    // "If I is greater than the pickup: .. Otherwise it is not picked up, and the sum is 0."
    private static void greaterThanThePickup() {
        for (int kind = 0; kind <= 2; kind++) {
            FeederRelays x = Check.chain(1);
            x.settings(0, kind, 300, 1000);
            x.load(0, 601);
            x.run(1);
            CHECK.due("I is 300", x.effective(0), 300);
            CHECK.due("state at the pickup", x.state(0), 1);
            CHECK.due("sum at the pickup", x.sum(0), 0);
            CHECK.due("changes at the pickup", x.changes(0), 0);
            FeederRelays y = Check.chain(1);
            y.settings(0, kind, 300, 1000);
            y.load(0, 602);
            y.run(1);
            CHECK.due("I is 301", y.effective(0), 301);
            CHECK.due("state above the pickup", y.state(0), 3);
            CHECK.due("sum above the pickup", y.sum(0), kind == 2 ? 601 : 1);
            CHECK.due("changes above the pickup", y.changes(0), 1);
            y.settings(0, kind, 301, 1000);
            y.load(0, 0);
            y.run(1);
            CHECK.due("state at the pickup again", y.state(0), 1);
            CHECK.due("sum at the pickup again", y.sum(0), 0);
            CHECK.due("changes at the pickup again", y.changes(0), 2);
        }
    }

    // "its sum is at least its limit": the limit as great as the sum, and greater by 1
    private static void sumAtLeastTheLimit() {
        int[][] kindPickupTimeFault = {{0, 100, 1, 400}, {1, 1, 3, 8}, {1, 100, 2, 600}, {2, 1, 3, 4}, {2, 100, 3, 400}};
        for (int[] row : kindPickupTimeFault) {
            String of = " of kind " + row[0] + ", pickup " + row[1];
            CHECK.due("limit reached" + of, eventsAfterATick(row[0], row[1], row[2], row[3]), 1);
            CHECK.due("limit too great" + of, eventsAfterATick(row[0], row[1], row[2] + 1, row[3]), 0);
            CHECK.due("sum too small" + of, eventsAfterATick(row[0], row[1], row[2], row[3] - 2), row[0] == 0 ? 1 : 0);
        }
    }

    private static int eventsAfterATick(int kind, int pickup, int time, int fault) {
        FeederRelays x = Check.chain(1);
        x.settings(0, kind, pickup, time);
        x.fault(0, fault);
        x.run(1);
        return x.events();
    }

    // "its breaker is closed, it has no order": picked up with its sum over the limit all the time
    private static void noOrderForAnOpenBreaker() {
        FeederRelays x = Scenes.quick(0);
        for (int tick = 1; tick <= 5; tick++) {
            x.run(1);
            CHECK.due("sum at " + tick, x.sum(0), tick);
        }
        CHECK.due("picked up, open", x.state(0), 2 + 16);
        CHECK.events("one order", x, 1, 0, 1, 2, 0, 3, 5, 0, 3);
        FeederRelays jammed = Scenes.quick(0);
        jammed.jam(0, true);
        jammed.run(20);
        CHECK.due("sum of the jammed one", jammed.sum(0), 20);
        CHECK.events("one order of the jammed one", jammed, 1, 0, 1);
    }
}
