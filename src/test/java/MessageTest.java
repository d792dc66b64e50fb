/** Promises 8, 14 and 18: messages with their lags, what is known, and holding back. */
public final class MessageTest {
    private static final Check CHECK = new Check();

    public static void main(String[] args) {
        lags();
        cutLine();
        cutHoldsWhatIsUnderWay();
        laterMessagesOvertake();
        theGreatestNumberStays();
        twoThatComeAtOnce();
        noMessageBeforeAChange();
        repeatsKeepBlocking();
        blockedHoldsTheTripBack();
        notBlockedWhenNotPickedUp();
        notBlockedByOneFurtherBelow();
        blockedByAnyOneBelow();
        knownOfNone();
        CHECK.end();
    }

    private static void lags() {
        for (int lag = 1; lag <= 8; lag++) {
            FeederRelays x = Scenes.heldPair(lag);
            x.fault(1, 1000);
            Check.runTo(x, lag);
            CHECK.due("known before lag " + lag, x.known(1), 0);
            CHECK.due("not blocked before lag " + lag, x.state(0), 1);
            x.run(1);
            CHECK.due("known after lag " + lag, x.known(1), 3);
            CHECK.due("blocked after lag " + lag, x.state(0), 1 + 64);
            x.fault(1, 0);
            int off = x.time() + 4;
            Check.runTo(x, off + lag - 1);
            CHECK.due("known before the next with lag " + lag, x.known(1), 3);
            x.run(1);
            CHECK.due("known after the next with lag " + lag, x.known(1), 4);
            CHECK.due("not blocked after the next with lag " + lag, x.state(0), 1);
        }
        FeederRelays x = Check.chain(2);
        x.fault(1, 1000);
        x.run(1);
        CHECK.due("lag 1 at first, at 1", x.known(1), 0);
        x.run(1);
        CHECK.due("lag 1 at first, at 2", x.known(1), 3);
    }

    private static void cutLine() {
        FeederRelays x = Scenes.heldPair(0);
        x.fault(1, 1000);
        x.run(20);
        CHECK.due("nothing comes through a cut line", x.known(1), 0);
        CHECK.due("changes with a cut line", x.changes(1), 1);
        // Repeats went on at 2, 4, 8, 16: the next ones are at 24 and 32.
        x.line(1, 2);
        Check.runTo(x, 25);
        CHECK.due("known at 25", x.known(1), 0);
        x.run(1);
        CHECK.due("the repeat of 24 comes at 26", x.known(1), 3);
    }

    private static void cutHoldsWhatIsUnderWay() {
        FeederRelays x = Scenes.heldPair(5);
        x.fault(1, 1000);
        x.run(1);
        x.line(1, 0);
        x.run(4);
        CHECK.due("known at 5", x.known(1), 0);
        x.run(1);
        CHECK.due("sent before the cut, it comes at 6", x.known(1), 3);
    }

    private static void laterMessagesOvertake() {
        FeederRelays x = Scenes.heldPair(8);
        x.fault(1, 150);
        // Effective currents 75, 106: picked up at 2, sent with lag 8 for 10.
        x.run(2);
        CHECK.due("changes at 2", x.changes(1), 1);
        x.fault(1, 0);
        x.line(1, 1);
        x.settings(1, 0, 5000, 1000);
        x.run(1);
        CHECK.due("changes at 3", x.changes(1), 2);
        x.run(1);
        CHECK.due("the later one comes first", x.known(1), 4);
        x.line(1, 0);
        Check.runTo(x, 10);
        CHECK.due("the earlier one is not taken", x.known(1), 4);
        CHECK.due("not blocked by it", x.state(0), 1);
    }

    private static void theGreatestNumberStays() {
        FeederRelays x = Scenes.heldPair(0);
        x.fault(1, 1000);
        x.run(1);
        x.line(1, 8);
        x.settings(1, 0, 5000, 1000);
        x.run(1);
        x.line(1, 1);
        x.settings(1, 0, 100, 1000);
        x.run(2);
        CHECK.due("number 3 comes at 4", x.known(1), 7);
        Check.runTo(x, 10);
        CHECK.due("number 2, not picked up, comes at 10", x.known(1), 7);
        CHECK.due("blocked all the same", x.state(0), 1 + 64);
    }

    private static void twoThatComeAtOnce() {
        FeederRelays x = Scenes.heldPair(4);
        x.fault(1, 1000);
        x.run(1);
        x.line(1, 3);
        x.settings(1, 0, 5000, 1000);
        x.run(1);
        CHECK.due("two changes", x.changes(1), 2);
        x.line(1, 0);
        x.run(2);
        CHECK.due("nothing at 4", x.known(1), 0);
        x.run(1);
        CHECK.due("both at 5", x.known(1), 4);
    }

    private static void noMessageBeforeAChange() {
        FeederRelays x = Scenes.heldPair(1);
        x.run(20);
        CHECK.due("known without a change", x.known(1), 0);
    }

    private static void repeatsKeepBlocking() {
        FeederRelays x = Scenes.heldPair(1);
        x.fault(1, 1000);
        x.run(2);
        for (int i = 0; i < 100; i++) {
            CHECK.due("blocked at " + x.time(), x.state(0), 1 + 64);
            x.run(1);
        }
        x.options(0, false, 0, 50);
        CHECK.due("not held back, not blocked", x.state(0), 1);
        x.options(0, true, 0, 50);
        CHECK.due("held back again", x.state(0), 1 + 64);
    }

    private static void blockedHoldsTheTripBack() {
        FeederRelays x = Check.chain(2);
        x.settings(0, 0, 100, 5);
        x.settings(1, 0, 100, 1000);
        x.options(0, true, 0, 50);
        x.fault(1, 1000);
        x.run(1);
        x.line(1, 0);
        Check.runTo(x, 14);
        CHECK.due("held back past its limit", x.sum(0), 14);
        CHECK.events("no order while blocked", x);
        x.run(1);
        CHECK.events("order when the message is old", x, 1, 0, 15);

        FeederRelays y = Check.chain(2);
        y.settings(0, 0, 100, 5);
        y.settings(1, 0, 100, 1000);
        y.fault(1, 1000);
        y.run(5);
        CHECK.events("not held back", y, 1, 0, 5);
    }

    private static void notBlockedWhenNotPickedUp() {
        FeederRelays x = Scenes.heldPair(1);
        x.fault(1, 1000);
        x.run(5);
        x.fault(1, 0);
        x.run(4);
        CHECK.due("not picked up, the message under way", x.state(0), 1 + 64);
        x.run(1);
        CHECK.due("known not picked up", x.known(1), 4);
        CHECK.due("not blocked", x.state(0), 1);
    }

    private static void notBlockedByOneFurtherBelow() {
        FeederRelays x = Check.chain(3);
        for (int r = 0; r < 3; r++) {
            x.settings(r, 0, r == 2 ? 100 : 5000, 1000);
            x.options(r, true, 0, 50);
        }
        x.fault(2, 1000);
        x.run(5);
        CHECK.due("relay 0", x.state(0), 1);
        CHECK.due("relay 1", x.state(1), 1 + 64);
        CHECK.due("relay 2", x.state(2), 1 + 2);
        CHECK.due("known(2)", x.known(2), 3);
        CHECK.due("known(1)", x.known(1), 0);
    }

    private static void blockedByAnyOneBelow() {
        for (int below = 1; below < 8; below++) {
            FeederRelays x = Check.star(8);
            x.settings(0, 0, 5000, 1000);
            x.options(0, true, 0, 50);
            x.settings(below, 0, 100, 1000);
            x.fault(below, 1000);
            x.run(5);
            CHECK.due("blocked by " + below, x.state(0), 1 + 64);
        }
    }

    private static void knownOfNone() {
        FeederRelays x = Check.chain(2);
        x.fault(0, 1000);
        x.run(5);
        CHECK.due("known(0)", x.known(0), -1);
        CHECK.due("known(2)", x.known(2), -1);
        CHECK.due("known(-1)", x.known(-1), -1);
        CHECK.due("known(1)", x.known(1), 0);
    }
}
