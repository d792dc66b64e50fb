/** Promises 7, 9, 14 and 16: orders, opening, closing again, reclaiming, locking, jams, failing, by hand. */
public final class BreakerTest {
    private static final Check CHECK = new Check();

    public static void main(String[] args) {
        threeShotsThenLocked();
        reclaimAfterThirtyTicks();
        reclaimAnyNumberOfShots();
        reclaimAgain();
        noReclaimWithAnOrder();
        fewerShotsWhileWaiting();
        jamHoldsTheBreaker();
        jamDoesNotHoldClosing();
        failingOrdersTheOneAbove();
        failingOncePerOrder();
        failingOnlyWhenPickedUp();
        failingWithTheOneAboveBusyOrOpen();
        orderFromBelowLocks();
        ordersOfBothSorts();
        patienceOfOne();
        operateOpensAndLocks();
        operateClosesAndClears();
        operateTakesTheOrder();
        operateOpensWithAnOrder();
        operateStopsWaiting();
        operateClosesTheWaitingOne();
        operateLeavesTheRest();
        operateJammed();
        stateOfNone();
        CHECK.end();
    }

    private static void threeShotsThenLocked() {
        FeederRelays x = Scenes.quick(3);
        x.run(1);
        CHECK.due("ordered", x.state(0), 1 + 2 + 4);
        x.run(1);
        CHECK.due("one tick is not enough", x.state(0), 1 + 2 + 4);
        x.run(1);
        CHECK.due("open and waiting", x.state(0), 2 + 8);
        CHECK.due("used at 3", x.used(0), 0);
        Check.runTo(x, 7);
        CHECK.due("still waiting", x.state(0), 8);
        Check.runTo(x, 8);
        CHECK.due("closed, and ordered again", x.state(0), 1 + 2 + 4);
        CHECK.due("used at 8", x.used(0), 1);
        Check.runTo(x, 29);
        CHECK.due("waiting 20 ticks", x.state(0), 8);
        Check.runTo(x, 30);
        CHECK.due("used at 30", x.used(0), 2);
        Check.runTo(x, 81);
        CHECK.due("waiting 50 ticks", x.state(0), 8);
        Check.runTo(x, 82);
        CHECK.due("used at 82", x.used(0), 3);
        Check.runTo(x, 84);
        CHECK.due("locked", x.state(0), 2 + 16);
        Check.runTo(x, 200);
        CHECK.due("locked for good", x.state(0), 16);
        CHECK.due("used stays when locked", x.used(0), 3);
        CHECK.events("three shots", x, 1, 0, 1, 2, 0, 3, 3, 0, 8, 1, 0, 8, 2, 0, 10, 3, 0, 30, 1, 0, 30, 2, 0, 32,
            3, 0, 82, 1, 0, 82, 2, 0, 84, 5, 0, 84);
    }

    private static void reclaimAfterThirtyTicks() {
        FeederRelays x = Scenes.quick(1);
        x.run(3);
        x.fault(0, 0);
        Check.runTo(x, 37);
        CHECK.due("used at 37", x.used(0), 1);
        Check.runTo(x, 38);
        CHECK.due("used at 38", x.used(0), 0);
        CHECK.due("state after reclaiming", x.state(0), 1);
        x.fault(0, 1000);
        Check.runTo(x, 41);
        CHECK.due("a shot again", x.state(0), 2 + 8);
        CHECK.events("reclaim", x, 1, 0, 1, 2, 0, 3, 3, 0, 8, 4, 0, 38, 1, 0, 39, 2, 0, 41);
    }

    private static void reclaimAnyNumberOfShots() {
        int[] opensAt = {3, 10, 32};
        int[] closesAt = {8, 30, 82};
        for (int shots = 1; shots <= 3; shots++) {
            FeederRelays x = Scenes.quick(shots);
            Check.runTo(x, opensAt[shots - 1]);
            x.fault(0, 0);
            Check.runTo(x, closesAt[shots - 1] + 29);
            CHECK.due("used of " + shots, x.used(0), shots);
            x.run(1);
            CHECK.due("used of " + shots + " after 30 ticks", x.used(0), 0);
            CHECK.due("reclaimed at once", x.event(x.events() - 1), 4);
            CHECK.due("the event before", x.event(x.events() - 2), 3);
        }
    }

    private static void reclaimAgain() {
        FeederRelays x = Scenes.quick(1);
        for (int round = 0; round < 5; round++) {
            int start = 40 * round;
            x.fault(0, 1000);
            x.run(3);
            CHECK.due("waiting in round " + round, x.state(0), 2 + 8);
            x.fault(0, 0);
            Check.runTo(x, start + 37);
            CHECK.due("used in round " + round, x.used(0), 1);
            Check.runTo(x, start + 40);
            CHECK.due("used after round " + round, x.used(0), 0);
            CHECK.due("events after round " + round, x.events(), 4 * (round + 1));
            CHECK.due("the event of round " + round, x.event(4 * round + 3), 4);
            CHECK.due("the time of round " + round, x.when(4 * round + 3), start + 38);
        }
    }

    private static void noReclaimWithAnOrder() {
        FeederRelays x = Scenes.quick(2);
        x.run(3);
        x.jam(0, true);
        Check.runTo(x, 50);
        CHECK.due("used with an order", x.used(0), 1);
        x.operate(0, true);
        CHECK.due("used after operate", x.used(0), 0);
        CHECK.events("no reclaim", x, 1, 0, 1, 2, 0, 3, 3, 0, 8, 1, 0, 8);
    }

    private static void fewerShotsWhileWaiting() {
        FeederRelays x = Scenes.quick(1);
        x.run(4);
        x.options(0, false, 0, 50);
        Check.runTo(x, 10);
        CHECK.due("closed once, then locked", x.state(0), 2 + 16);
        CHECK.due("used more than it has", x.used(0), 1);
        CHECK.events("fewer shots", x, 1, 0, 1, 2, 0, 3, 3, 0, 8, 1, 0, 8, 2, 0, 10, 5, 0, 10);
    }

    private static void jamHoldsTheBreaker() {
        FeederRelays x = Scenes.quick(0);
        CHECK.yes("jam(0, true)", x.jam(0, true));
        CHECK.due("jammed", x.state(0), 1 + 32);
        x.run(20);
        CHECK.due("jammed with an order", x.state(0), 1 + 2 + 4 + 32);
        CHECK.yes("jam(0, false)", x.jam(0, false));
        CHECK.due("not jammed, not yet open", x.state(0), 1 + 2 + 4);
        x.run(1);
        CHECK.due("open in the next tick", x.state(0), 2 + 16);
        CHECK.events("jam", x, 1, 0, 1, 2, 0, 21, 5, 0, 21);
        CHECK.no("jam of none", x.jam(1, true));
        CHECK.no("jam of -1", x.jam(-1, true));
    }

    private static void jamDoesNotHoldClosing() {
        FeederRelays x = Scenes.quick(1);
        x.run(3);
        x.fault(0, 0);
        x.jam(0, true);
        CHECK.due("jammed and waiting", x.state(0), 2 + 8 + 32);
        Check.runTo(x, 8);
        CHECK.due("closed while jammed", x.state(0), 1 + 32);
    }

    private static void failingOrdersTheOneAbove() {
        FeederRelays x = Scenes.pair(4);
        x.jam(1, true);
        x.run(4);
        CHECK.events("not yet failed", x, 1, 1, 1);
        x.run(1);
        CHECK.events("failed", x, 1, 1, 1, 6, 1, 5, 7, 0, 5);
        CHECK.due("the one above has an order", x.state(0), 1 + 4);
        x.run(2);
        CHECK.due("the one above is open", x.state(0), 16);
        CHECK.events("opened above", x, 1, 1, 1, 6, 1, 5, 7, 0, 5, 2, 0, 7, 5, 0, 7);
    }

    private static void failingOncePerOrder() {
        FeederRelays x = Scenes.pair(3);
        x.jam(0, true);
        x.jam(1, true);
        x.run(20);
        CHECK.events("once per order", x, 1, 1, 1, 6, 1, 4, 7, 0, 4);
        x.operate(1, true);
        x.run(4);
        CHECK.events("again for a new order", x, 1, 1, 1, 6, 1, 4, 7, 0, 4, 1, 1, 21, 6, 1, 24);
    }

    private static void failingOnlyWhenPickedUp() {
        FeederRelays x = Scenes.pair(8);
        x.jam(1, true);
        x.run(1);
        x.fault(1, 0);
        x.run(15);
        CHECK.due("not picked up, with an order", x.state(1), 1 + 4 + 32);
        CHECK.events("no failing when not picked up", x, 1, 1, 1);
        x.fault(1, 1000);
        x.run(1);
        CHECK.events("failing when picked up later", x, 1, 1, 1, 6, 1, 17, 7, 0, 17);
    }

    private static void failingWithTheOneAboveBusyOrOpen() {
        FeederRelays x = Check.star(3);
        x.settings(0, 0, 5000, 1000);
        for (int r = 1; r <= 2; r++) {
            x.settings(r, 0, 100, 1);
            x.options(r, false, 0, 2);
            x.jam(r, true);
            x.fault(r, 1000);
        }
        x.run(10);
        CHECK.events("one order above for two that fail", x,
            1, 1, 1, 1, 2, 1, 6, 1, 3, 7, 0, 3, 6, 2, 3, 2, 0, 5, 5, 0, 5);

        FeederRelays y = Scenes.pair(2);
        y.jam(1, true);
        y.run(2);
        y.operate(0, false);
        y.run(1);
        CHECK.events("no order for an open breaker above", y, 1, 1, 1, 6, 1, 3);
        CHECK.due("the open one above", y.state(0), 16);

        FeederRelays z = Scenes.quick(0);
        z.options(0, false, 0, 2);
        z.jam(0, true);
        z.run(3);
        CHECK.events("relay 0 fails with none above", z, 1, 0, 1, 6, 0, 3);
    }

    private static void orderFromBelowLocks() {
        FeederRelays x = Scenes.pair(3);
        x.options(0, false, 3, 10);
        x.jam(1, true);
        x.run(6);
        CHECK.due("an order from below takes no shot", x.state(0), 16);
        CHECK.due("used by an order from below", x.used(0), 0);
    }

    // "if the order was its own": that order, not an earlier one
    private static void ordersOfBothSorts() {
        FeederRelays x = Scenes.pair(2);
        x.fault(1, 0);
        x.settings(0, 0, 100, 1);
        x.options(0, false, 3, 50);
        x.fault(0, 1000);
        x.run(3);
        CHECK.due("its own order", x.state(0), 2 + 8);
        x.operate(0, true);
        x.settings(0, 0, 5000, 1000);
        x.fault(0, 0);
        x.fault(1, 1000);
        x.jam(1, true);
        x.run(5);
        CHECK.due("then one from below", x.state(0), 16);
        x.operate(0, true);
        x.operate(1, false);
        x.settings(0, 0, 100, 1);
        x.fault(0, 1000);
        x.run(3);
        CHECK.due("then its own again", x.state(0), 2 + 8);
        CHECK.events("orders of both sorts", x,
            1, 0, 1, 2, 0, 3, 1, 1, 4, 6, 1, 6, 7, 0, 6, 2, 0, 8, 5, 0, 8, 1, 0, 9, 2, 0, 11);
    }

    private static void patienceOfOne() {
        FeederRelays x = Scenes.pair(1);
        x.run(4);
        CHECK.events("fails before it can open", x,
            1, 1, 1, 6, 1, 2, 7, 0, 2, 2, 1, 3, 5, 1, 3, 2, 0, 4, 5, 0, 4);
    }

    private static void operateOpensAndLocks() {
        FeederRelays x = Check.chain(2);
        CHECK.yes("operate(1, false)", x.operate(1, false));
        CHECK.due("open and locked", x.state(1), 16);
        CHECK.yes("operate(1, false) again", x.operate(1, false));
        CHECK.due("open and locked still", x.state(1), 16);
        x.run(20);
        CHECK.due("open for good", x.state(1), 16);
        CHECK.due("the other one", x.state(0), 1);
        CHECK.events("no event by hand", x);
        CHECK.no("operate of none", x.operate(2, false));
        CHECK.no("operate of -1", x.operate(-1, true));
    }

    private static void operateClosesAndClears() {
        FeederRelays x = Scenes.quick(0);
        x.run(20);
        CHECK.due("locked", x.state(0), 16);
        x.fault(0, 0);
        CHECK.yes("operate(0, true)", x.operate(0, true));
        CHECK.due("closed, not locked", x.state(0), 1);
        x.run(20);
        CHECK.due("closed for good", x.state(0), 1);
        CHECK.events("no event by hand", x, 1, 0, 1, 2, 0, 3, 5, 0, 3);
    }

    private static void operateTakesTheOrder() {
        FeederRelays x = Scenes.quick(0);
        x.run(1);
        x.fault(0, 0);
        x.operate(0, true);
        CHECK.due("no order any more", x.state(0), 1 + 2);
        x.settings(0, 0, 5000, 1000);
        x.run(10);
        CHECK.due("it did not open", x.state(0), 1);
        CHECK.events("nothing opened", x, 1, 0, 1);
    }

    private static void operateStopsWaiting() {
        FeederRelays x = Scenes.quick(3);
        Check.runTo(x, 12);
        CHECK.due("waiting with a shot used", x.state(0), 2 + 8);
        CHECK.due("used", x.used(0), 1);
        x.operate(0, false);
        CHECK.due("locked by hand", x.state(0), 2 + 16);
        CHECK.due("no shot used", x.used(0), 0);
        Check.runTo(x, 100);
        CHECK.due("it does not close again", x.state(0), 16);
        x.operate(0, true);
        Check.runTo(x, 103);
        CHECK.due("all shots are there again", x.state(0), 2 + 8);
        Check.runTo(x, 108);
        CHECK.due("the first wait again", x.used(0), 1);
    }

    private static void operateOpensWithAnOrder() {
        FeederRelays x = Scenes.quick(1);
        x.run(1);
        x.operate(0, false);
        CHECK.due("open, without an order", x.state(0), 2 + 16);
        x.run(20);
        CHECK.due("it stays open", x.state(0), 16);
        CHECK.events("no event of opening", x, 1, 0, 1);
    }

    private static void operateClosesTheWaitingOne() {
        FeederRelays x = Scenes.quick(1);
        x.run(4);
        x.fault(0, 0);
        CHECK.due("waiting", x.state(0), 2 + 8);
        x.operate(0, true);
        CHECK.due("closed, not waiting", x.state(0), 1 + 2);
        x.settings(0, 0, 5000, 1000);
        Check.runTo(x, 50);
        CHECK.due("no shot used", x.used(0), 0);
        CHECK.events("no event of closing or reclaiming", x, 1, 0, 1, 2, 0, 3);
    }

    // What operate does not name stays: what is measured, sent and known.
    private static void operateLeavesTheRest() {
        FeederRelays x = Scenes.heldPair(2);
        x.fault(1, 1000);
        x.run(4);
        for (boolean closed : new boolean[] {false, true}) {
            x.operate(1, closed);
            CHECK.due("picked up", x.state(1), closed ? 1 + 2 : 2 + 16);
            CHECK.due("sum", x.sum(1), 4);
            CHECK.due("effective", x.effective(1), 1000);
            CHECK.due("changes", x.changes(1), 1);
            CHECK.due("known", x.known(1), 3);
            x.operate(0, closed);
            CHECK.due("the one above is blocked", x.state(0), closed ? 1 + 64 : 16 + 64);
            CHECK.due("known by the one above", x.known(1), 3);
        }
        // The one sent at 4 comes at 6, the next one is sent at 8.
        x.line(1, 0);
        Check.runTo(x, 18);
        CHECK.due("12 ticks after it came", x.state(0), 1 + 64);
        x.run(1);
        CHECK.due("13 ticks after it came", x.state(0), 1);
    }

    private static void operateJammed() {
        FeederRelays x = Check.chain(1);
        x.jam(0, true);
        x.operate(0, false);
        CHECK.due("opened by hand, jammed", x.state(0), 16 + 32);
        x.operate(0, true);
        CHECK.due("closed by hand, jammed", x.state(0), 1 + 32);
    }

    private static void stateOfNone() {
        FeederRelays x = Check.chain(1);
        CHECK.due("state(1)", x.state(1), -1);
        CHECK.due("state(-1)", x.state(-1), -1);
        CHECK.due("used(1)", x.used(1), -1);
        CHECK.due("used(-1)", x.used(-1), -1);
    }
}
