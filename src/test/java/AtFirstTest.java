/** What 'Terms' says is so at first: of each of the eight, whatever those made before it have been set to. */
public final class AtFirstTest {
    private static final Check CHECK = new Check();

    public static void main(String[] args) {
        for (int r = 0; r < 8; r++) {
            whatShows(r);
            loadAndFault(r);
            kindPickupAndTime(r);
            patience(r);
            heldBackAndLag(r);
            shots(r);
        }
        sourceIsFirst();
        CHECK.end();
    }

    /** Eight in a chain; those above r were set to all that can be set before r was made. */
    private static FeederRelays chainWith(int r) {
        FeederRelays x = new FeederRelays();
        for (int i = 0; i < r; i++) {
            x.relay(i - 1);
            x.settings(i, 2, 5000, 1000);
            x.options(i, true, 3, 50);
            x.load(i, 1);
            x.fault(i, 1);
            x.jam(i, true);
            x.line(i, 8);
            x.operate(i, false);
        }
        for (int i = r; i < 8; i++) {
            CHECK.due("relay " + i, x.relay(i - 1), i);
        }
        return x;
    }

    /** The same with all closed, so that r is fed; those below it neither trip nor are picked up. */
    private static FeederRelays fedChainWith(int r) {
        FeederRelays x = chainWith(r);
        for (int i = 0; i < r; i++) {
            x.operate(i, true);
        }
        for (int i = r + 1; i < 8; i++) {
            x.settings(i, 0, 5000, 1000);
        }
        return x;
    }

    // "a BREAKER, closed at first", "not picked up", "a SUM (0 at first)", "USED some shots (0 at first)"
    private static void whatShows(int r) {
        FeederRelays x = chainWith(r);
        for (int i = r; i < 8; i++) {
            CHECK.due("state(" + i + ")", x.state(i), 1);
            CHECK.due("sum(" + i + ")", x.sum(i), 0);
            CHECK.due("used(" + i + ")", x.used(i), 0);
            CHECK.due("changes(" + i + ")", x.changes(i), 0);
            CHECK.due("known(" + i + ")", x.known(i), i == 0 ? -1 : 0);
            CHECK.due("effective(" + i + ")", x.effective(i), 0);
        }
        for (int i = 0; i < r; i++) {
            CHECK.due("state(" + i + ") of one made before", x.state(i), 16 + 32);
        }
    }

    // "with a LOAD and a FAULT (amounts, 0 at first)"
    private static void loadAndFault(int r) {
        FeederRelays x = fedChainWith(r);
        for (int i = 0; i < 8; i++) {
            CHECK.due("current(" + i + ") with " + r + " at first", x.current(i), 2 * Math.max(0, r - i));
        }
    }

    // "a KIND (0 at first), a PICKUP (100), a TIME (5)"
    private static void kindPickupAndTime(int r) {
        FeederRelays x = fedChainWith(r);
        x.load(r, 100);
        x.run(20);
        CHECK.due("state(" + r + ") at 100", x.state(r), 1);
        x.load(r, 101);
        x.run(3);
        CHECK.due("state(" + r + ") with a sample of 100", x.state(r), 1);
        x.run(1);
        CHECK.due("state(" + r + ") at 101", x.state(r), 1 + 2);
        x.load(r, 103);
        x.run(3);
        CHECK.due("sum(" + r + ") before its time", x.sum(r), 4);
        CHECK.events("before the time of " + r, x);
        x.run(1);
        CHECK.due("sum(" + r + ") at its time", x.sum(r), 5);
        CHECK.events("at the time of " + r, x, 1, r, 28);
    }

    // "its PATIENCE (10)"
    private static void patience(int r) {
        FeederRelays x = fedChainWith(r);
        x.fault(r, 1000);
        x.jam(r, true);
        Check.runTo(x, 14);
        CHECK.events("before the patience of " + r, x, 1, r, 5);
        x.run(1);
        if (r == 0) {
            CHECK.events("at the patience of 0", x, 1, 0, 5, 6, 0, 15);
        } else {
            CHECK.events("at the patience of " + r, x, 1, r, 5, 6, r, 15, 7, r - 1, 15);
        }
    }

    // "whether it is HELD BACK by relays below (false at first)", "a LAG (1 at first)"
    private static void heldBackAndLag(int r) {
        if (r == 7) {
            return;
        }
        FeederRelays x = fedChainWith(r);
        x.settings(r + 1, 0, 50, 1000);
        x.fault(r + 1, 1000);
        x.run(1);
        CHECK.due("known(" + (r + 1) + ") at 1", x.known(r + 1), 0);
        CHECK.due("changes(" + r + ") at 1", x.changes(r), 1);
        x.run(1);
        CHECK.due("known(" + (r + 1) + ") at 2", x.known(r + 1), 3);
        CHECK.due("known(" + r + ") at 2", x.known(r), r == 0 ? -1 : 3);
        CHECK.due("state(" + r + "), not held back", x.state(r), 1 + 2);
        x.run(3);
        CHECK.events("not held back", x, 1, r, 5);
    }

    // "its SHOTS (0 .. 3, at first 0)"
    private static void shots(int r) {
        FeederRelays x = fedChainWith(r);
        x.fault(r, 1000);
        x.run(7);
        CHECK.due("state(" + r + ") without shots", x.state(r), 2 + 16);
        CHECK.events("without shots", x, 1, r, 5, 2, r, 7, 5, r, 7);
    }

    // "Relay 0 is at the source", "(it is 0 at first)"
    private static void sourceIsFirst() {
        FeederRelays x = new FeederRelays();
        CHECK.due("time()", x.time(), 0);
        CHECK.due("events()", x.events(), 0);
        CHECK.due("the first relay", x.relay(-1), 0);
        CHECK.due("known(0), none is above it", x.known(0), -1);
        CHECK.due("the second relay", x.relay(0), 1);
        CHECK.due("known(1)", x.known(1), 0);
        CHECK.due("time() after making relays", x.time(), 0);
    }
}
