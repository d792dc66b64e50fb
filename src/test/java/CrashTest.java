import java.util.List;

/** Promise 11: what a crash takes and what it leaves, "A CRASH: .. All else stays." */
public final class CrashTest {
    private static final Check CHECK = new Check();

    public static void main(String[] args) {
        crashWithoutRelays();
        nothingToTake();
        twoCrashesAreAsOne();
        crashTakesWhatIsMeasured();
        crashTakesMessagesUnderWay();
        crashTakesOneUnderWayForEachLag();
        crashTakesDueMessages();
        crashTakesWhatIsKnown();
        numbersBeginAnew();
        crashTakesOrders();
        crashTakesOrdersFromBelow();
        crashTakesThatItFailed();
        crashTakesWaitingAndShots();
        crashInTheLastTickOfWaiting();
        crashTakesTheTimeToReclaim();
        lockedJustIfOpen();
        crashLeavesAllElse();
        allAtOnce();
        CHECK.end();
    }

    private static FeederRelays slowPair(int lag) {
        FeederRelays x = Check.chain(2);
        x.settings(0, 1, 200, 1000);
        x.settings(1, 0, 100, 1000);
        x.options(0, true, 0, 50);
        x.line(1, lag);
        x.fault(1, 1000);
        return x;
    }

    private static void crashTakesWhatIsMeasured() {
        FeederRelays x = slowPair(1);
        x.run(3);
        CHECK.due("state(0) before", x.state(0), 1 + 2 + 64);
        x.crash();
        for (int r = 0; r < 2; r++) {
            CHECK.due("state", x.state(r), 1);
            CHECK.due("sum", x.sum(r), 0);
            CHECK.due("effective", x.effective(r), 0);
            CHECK.due("changes", x.changes(r), 0);
            CHECK.due("current stays", x.current(r), 1000);
        }
        CHECK.due("known", x.known(1), 0);
        int[] effective = {500, 707, 866, 1000};
        for (int want : effective) {
            x.run(1);
            CHECK.due("samples begin anew", x.effective(1), want);
        }
        CHECK.due("changes begin anew", x.changes(1), 1);
        CHECK.due("known begins anew", x.known(1), 3);
        CHECK.due("sum begins anew", x.sum(1), 4);
        x.crash();
        x.fault(1, 1);
        x.run(3);
        CHECK.due("every sample was 0", x.effective(1), 0);
    }

    private static void crashTakesMessagesUnderWay() {
        FeederRelays x = slowPair(4);
        x.run(3);
        x.crash();
        x.fault(1, 0);
        x.run(20);
        CHECK.due("messages under way are gone", x.known(1), 0);
    }

    private static void crashTakesDueMessages() {
        FeederRelays x = slowPair(1);
        x.run(5);
        x.fault(1, 0);
        x.crash();
        x.run(20);
        CHECK.due("no message is due", x.known(1), 0);
        CHECK.due("no change", x.changes(1), 0);
    }

    private static void crashTakesOrders() {
        FeederRelays x = Check.chain(1);
        x.settings(0, 0, 100, 1);
        x.fault(0, 1000);
        x.run(1);
        CHECK.due("with an order", x.state(0), 1 + 2 + 4);
        x.crash();
        CHECK.due("without an order", x.state(0), 1);
        x.fault(0, 0);
        x.run(20);
        CHECK.due("it did not open", x.state(0), 1);
        CHECK.events("only the stored order", x, 1, 0, 1);
    }

    private static void crashTakesWaitingAndShots() {
        FeederRelays x = Check.chain(1);
        x.settings(0, 0, 100, 1);
        x.options(0, false, 2, 50);
        x.fault(0, 1000);
        x.run(9);
        CHECK.due("used before", x.used(0), 1);
        x.crash();
        CHECK.due("used after", x.used(0), 0);
        CHECK.due("closed, not locked", x.state(0), 1);
        x.run(3);
        CHECK.due("waiting before", x.state(0), 2 + 8);
        x.crash();
        CHECK.due("open, locked", x.state(0), 16);
        x.run(20);
        CHECK.due("it does not close", x.state(0), 16);
        x.crash();
        CHECK.due("locked stays locked", x.state(0), 16);
    }

    private static void crashLeavesAllElse() {
        FeederRelays x = slowPair(3);
        x.load(0, 70);
        x.options(1, false, 1, 2);
        x.settings(1, 0, 100, 1);
        x.jam(1, true);
        x.run(2);
        x.crash();
        CHECK.due("time stays", x.time(), 2);
        CHECK.due("jam, breaker", x.state(1), 1 + 32);
        CHECK.due("load and fault", x.current(0), 1070);
        x.run(1);
        CHECK.due("kind and pickup stay", x.sum(0), 335);
        x.run(2);
        CHECK.events("time and patience stay", x, 1, 1, 1, 1, 1, 3, 6, 1, 5, 7, 0, 5);
        CHECK.due("lag, before", x.known(1), 0);
        x.jam(1, false);
        x.run(1);
        CHECK.due("lag, after", x.known(1), 3);
        CHECK.due("held back stays", x.state(0), 1 + 2 + 4 + 64);
        CHECK.due("shots stay", x.state(1), 2 + 8);
    }

    private static void crashWithoutRelays() {
        FeederRelays x = new FeederRelays();
        x.run(4);
        CHECK.due("crash()", x.crash(), 0);
        CHECK.due("time()", x.time(), 4);
    }

    // Without samples, orders, messages and events there is nothing that a crash could change.
    private static void nothingToTake() {
        changesNothing("a new object", new FeederRelays(), new FeederRelays());
        changesNothing("at time 0", setAtFirst(), setAtFirst());
        FeederRelays quiet = setAtFirst();
        FeederRelays twin = setAtFirst();
        for (FeederRelays x : new FeederRelays[] {quiet, twin}) {
            x.operate(0, false);
            x.run(20);
        }
        changesNothing("at time 20 with relay 0 open", quiet, twin);
    }

    private static FeederRelays setAtFirst() {
        FeederRelays x = Check.chain(3);
        for (int r = 0; r < 3; r++) {
            x.settings(r, 1, 150, 30);
            x.options(r, true, 2, 7);
            x.load(r, 60);
            x.fault(r, 100);
            x.line(r, 2);
        }
        x.jam(1, true);
        x.operate(2, false);
        return x;
    }

    private static void changesNothing(String when, FeederRelays crashed, FeederRelays spared) {
        List<String> before = Shown.of(crashed, 3);
        CHECK.due(when + ": crash()", crashed.crash(), 0);
        CHECK.yes(when + ": nothing changed", Shown.of(crashed, 3).equals(before));
        for (FeederRelays x : new FeederRelays[] {crashed, spared}) {
            x.operate(0, true);
            x.operate(2, true);
            x.run(20);
        }
        CHECK.yes(when + ": nothing changed later", Shown.of(crashed, 3).equals(Shown.of(spared, 3)));
    }

    private static void twoCrashesAreAsOne() {
        FeederRelays x = Scenes.manyAtOnce(7);
        x.run(3);
        CHECK.due("events gone", x.crash(), 15);
        List<String> before = Shown.of(x, 8);
        CHECK.due("no more gone", x.crash(), 0);
        CHECK.yes("nothing changed by the second one", Shown.of(x, 8).equals(before));
    }

    // "all messages under way are gone": in the first and in the last tick of their way
    private static void crashTakesOneUnderWayForEachLag() {
        for (int lag = 1; lag <= 8; lag++) {
            for (int tick : new int[] {1, lag}) {
                FeederRelays x = Scenes.heldPair(lag);
                x.fault(1, 1000);
                Check.runTo(x, tick);
                CHECK.due("changes before", x.changes(1), 1);
                x.crash();
                x.fault(1, 0);
                x.run(10);
                CHECK.due("known after a crash at " + tick + " with lag " + lag, x.known(1), 0);
                CHECK.due("changes after it", x.changes(1), 0);
                CHECK.due("not blocked", x.state(0), 1);
            }
        }
    }

    // "knows nothing": what was blocked is not, and trips when its sum is there again
    private static void crashTakesWhatIsKnown() {
        FeederRelays x = Check.chain(2);
        x.settings(0, 0, 100, 5);
        x.settings(1, 0, 100, 1000);
        x.options(0, true, 0, 50);
        x.fault(1, 1000);
        x.run(10);
        CHECK.due("blocked", x.state(0), 1 + 2 + 64);
        x.line(1, 0);
        x.crash();
        CHECK.due("known", x.known(1), 0);
        CHECK.due("not blocked", x.state(0), 1);
        x.run(4);
        CHECK.events("its sum is 4", x);
        x.run(1);
        CHECK.events("its sum is 5", x, 1, 0, 15);
    }

    // "has changed 0 times": number 1 is what is known then, though 3 was known before
    private static void numbersBeginAnew() {
        FeederRelays x = Scenes.heldPair(1);
        x.fault(1, 1000);
        x.run(1);
        x.settings(1, 0, 5000, 1000);
        x.run(1);
        x.settings(1, 0, 100, 1000);
        x.run(2);
        CHECK.due("known before", x.known(1), 7);
        x.crash();
        CHECK.due("changes", x.changes(1), 0);
        x.run(1);
        CHECK.due("changes in the next tick", x.changes(1), 1);
        CHECK.due("known in the next tick", x.known(1), 0);
        x.run(1);
        CHECK.due("known after the lag", x.known(1), 3);
        CHECK.due("blocked after the lag", x.state(0), 1 + 64);
    }

    private static void crashTakesOrdersFromBelow() {
        FeederRelays x = Scenes.pair(4);
        x.jam(1, true);
        x.run(6);
        CHECK.due("with an order from below", x.state(0), 1 + 4);
        x.crash();
        CHECK.due("without", x.state(0), 1);
        x.fault(1, 0);
        x.run(20);
        CHECK.due("it did not open", x.state(0), 1);
    }

    private static void crashTakesThatItFailed() {
        FeederRelays x = Scenes.pair(3);
        x.jam(0, true);
        x.jam(1, true);
        x.run(4);
        CHECK.due("all stored", x.crash(), 0);
        x.run(4);
        CHECK.events("failed once more", x, 1, 1, 1, 6, 1, 4, 7, 0, 4, 1, 1, 5, 6, 1, 8, 7, 0, 8);
    }

    private static void crashInTheLastTickOfWaiting() {
        FeederRelays x = Scenes.quick(1);
        x.run(7);
        CHECK.due("waiting", x.state(0), 8);
        x.crash();
        CHECK.due("locked", x.state(0), 16);
        x.run(1);
        CHECK.due("it does not close", x.state(0), 16);
        CHECK.events("no event of closing", x, 1, 0, 1, 2, 0, 3);
        x.operate(0, true);
        x.run(3);
        CHECK.due("it trips and waits as at first", x.state(0), 2 + 8);
    }

    private static void crashTakesTheTimeToReclaim() {
        FeederRelays x = Scenes.quick(1);
        x.run(3);
        x.fault(0, 0);
        Check.runTo(x, 37);
        CHECK.due("used before", x.used(0), 1);
        x.crash();
        CHECK.due("used after", x.used(0), 0);
        x.run(20);
        CHECK.events("nothing to reclaim", x, 1, 0, 1, 2, 0, 3, 3, 0, 8);
    }

    // "is locked just if its breaker is open"
    private static void lockedJustIfOpen() {
        FeederRelays x = Check.star(4);
        x.operate(1, false);
        x.jam(2, true);
        x.jam(3, true);
        x.operate(3, false);
        x.crash();
        int[] states = {1, 16, 1 + 32, 16 + 32};
        for (int r = 0; r < 4; r++) {
            CHECK.due("state(" + r + ")", x.state(r), states[r]);
        }
    }

    /**
     * At 9: relay 0 blocked, 1 jammed with an order, 2 waiting, 3 locked, 4 open by hand, 5 closed
     * again with a shot used, 6 with a message under way, 7 with nothing.
     */
    private static FeederRelays allSorts() {
        FeederRelays x = Check.star(8);
        x.settings(0, 0, 100, 1000);
        x.options(0, true, 0, 50);
        for (int r = 1; r < 8; r++) {
            x.settings(r, 0, 100, r == 6 ? 1000 : 1);
            x.options(r, false, r == 2 || r == 5 ? 1 : 0, 50);
        }
        x.jam(1, true);
        x.operate(4, false);
        x.line(6, 8);
        x.fault(1, 500);
        x.fault(3, 500);
        x.fault(5, 500);
        x.run(3);
        x.fault(5, 0);
        x.run(3);
        x.fault(2, 500);
        x.run(2);
        x.fault(6, 500);
        x.run(1);
        return x;
    }

    private static void allAtOnce() {
        FeederRelays x = allSorts();
        int[] before = {1 + 2 + 64, 1 + 2 + 4 + 32, 2 + 8, 16, 16, 1, 1 + 2, 1};
        int[] after = {1, 1 + 32, 16, 16, 16, 1, 1, 1};
        int[] currents = {1000, 500, 0, 0, 0, 0, 500, 0};
        for (int r = 0; r < 8; r++) {
            CHECK.due("state(" + r + ") before", x.state(r), before[r]);
        }
        CHECK.due("used(5) before", x.used(5), 1);
        CHECK.due("all events were stored", x.crash(), 0);
        for (int r = 0; r < 8; r++) {
            CHECK.due("state(" + r + ")", x.state(r), after[r]);
            CHECK.due("sum(" + r + ")", x.sum(r), 0);
            CHECK.due("used(" + r + ")", x.used(r), 0);
            CHECK.due("changes(" + r + ")", x.changes(r), 0);
            CHECK.due("known(" + r + ")", x.known(r), r == 0 ? -1 : 0);
            CHECK.due("effective(" + r + ")", x.effective(r), 0);
            CHECK.due("current(" + r + ")", x.current(r), currents[r]);
        }
        x.fault(1, 0);
        x.fault(6, 0);
        x.run(20);
        for (int r = 0; r < 8; r++) {
            CHECK.due("state(" + r + ") later", x.state(r), after[r]);
            CHECK.due("changes(" + r + ") later", x.changes(r), 0);
            CHECK.due("known(" + r + ") later", x.known(r), r == 0 ? -1 : 0);
        }
        CHECK.events("nothing later", x, 1, 1, 1, 1, 3, 1, 1, 5, 1, 2, 3, 3, 5, 3, 3, 2, 5, 3,
            1, 2, 7, 3, 5, 8, 2, 2, 9);
    }
}
