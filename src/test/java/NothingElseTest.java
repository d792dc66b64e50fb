/**
 * What a tick does depends on what the document names and on nothing else: a relay that is
 * blocked, open, jammed, picked up or not fed does all the rest as ever.
 */
public final class NothingElseTest {
    private static final Check CHECK = new Check();

    public static void main(String[] args) {
        blockedOpens();
        blockedFails();
        blockedGetsAnOrderFromBelow();
        blockedClosesAgain();
        blockedReclaims();
        blockedAndJammedDoesNotTrip();
        pickedUpReclaims();
        notFedReclaims();
        notFedClosesAgain();
        waitsWhileTheOneAboveOpens();
        notFedTrips();
        notFedMeasures();
        openOneIsBlocked();
        openOneSends();
        breakersSendNothing();
        lockedOneStaysKnown();
        openSectionIsSet();
        onlyTheOneDirectlyAboveIfOpen();
        onlyTheOneDirectlyAboveIfOrdered();
        eachByItsOwnPatience();
        allTripBeforeOneFails();
        timeSetWhilePickedUp();
        settingsLeaveTheOrder();
        settingsLeaveTheSamples();
        twelveTicksFromComing();
        cutLineIsSetAgain();
        CHECK.end();
    }

    /** In a chain of two the upper one is held back, trips in tick 1 and is blocked from tick 2 to 14. */
    private static FeederRelays blockedAfterTheOrder(int shots) {
        FeederRelays x = Check.chain(2);
        x.settings(0, 0, 100, 1);
        x.options(0, true, shots, 50);
        x.settings(1, 0, 100, 1000);
        x.fault(1, 1000);
        x.run(1);
        x.line(1, 0);
        CHECK.due("ordered, not blocked yet", x.state(0), 1 + 2 + 4);
        x.run(1);
        CHECK.due("ordered and blocked", x.state(0), 1 + 2 + 4 + 64);
        return x;
    }

    private static void blockedOpens() {
        FeederRelays x = blockedAfterTheOrder(0);
        x.run(1);
        CHECK.due("open and blocked", x.state(0), 2 + 16 + 64);
        CHECK.events("opened though blocked", x, 1, 0, 1, 2, 0, 3, 5, 0, 3);
    }

    private static void blockedFails() {
        FeederRelays x = Check.chain(3);
        x.settings(0, 0, 5000, 1000);
        x.settings(1, 0, 100, 1);
        x.options(1, true, 0, 3);
        x.jam(1, true);
        x.settings(2, 0, 100, 1000);
        x.fault(2, 1000);
        x.run(3);
        CHECK.due("ordered, jammed and blocked", x.state(1), 1 + 2 + 4 + 32 + 64);
        x.run(1);
        CHECK.events("failed though blocked", x, 1, 1, 1, 6, 1, 4, 7, 0, 4);
    }

    private static void blockedGetsAnOrderFromBelow() {
        FeederRelays x = Scenes.pair(4);
        x.settings(0, 0, 100, 2);
        x.options(0, true, 0, 10);
        x.jam(1, true);
        x.run(4);
        CHECK.due("over its limit and blocked", x.state(0), 1 + 2 + 64);
        x.run(1);
        CHECK.due("with an order from below", x.state(0), 1 + 2 + 4 + 64);
        x.run(2);
        CHECK.events("ordered and opened though blocked", x, 1, 1, 1, 6, 1, 5, 7, 0, 5, 2, 0, 7, 5, 0, 7);
    }

    private static void blockedClosesAgain() {
        FeederRelays x = blockedAfterTheOrder(1);
        Check.runTo(x, 7);
        CHECK.due("waiting and blocked", x.state(0), 8 + 64);
        x.run(1);
        CHECK.due("closed though blocked, without an order", x.state(0), 1 + 2 + 64);
        Check.runTo(x, 14);
        CHECK.events("blocked until 14", x, 1, 0, 1, 2, 0, 3, 3, 0, 8);
        x.run(1);
        CHECK.events("not blocked at 15", x, 1, 0, 1, 2, 0, 3, 3, 0, 8, 1, 0, 15);
    }

    /** Relay 0 with relays below it, closed again at 8 with one shot used. */
    private static FeederRelays closedAtEight(int relays) {
        FeederRelays x = Check.chain(relays);
        for (int r = 1; r < relays; r++) {
            x.settings(r, 0, 5000, 1000);
        }
        x.settings(0, 0, 100, 1);
        x.options(0, true, 1, 50);
        x.fault(0, 1000);
        x.run(3);
        x.fault(0, 0);
        x.run(5);
        CHECK.due("used at 8", x.used(0), 1);
        return x;
    }

    private static void blockedReclaims() {
        FeederRelays x = closedAtEight(2);
        x.settings(1, 0, 50, 1000);
        x.load(1, 90);
        Check.runTo(x, 37);
        CHECK.due("blocked", x.state(0), 1 + 64);
        CHECK.due("used at 37", x.used(0), 1);
        x.run(1);
        CHECK.due("still blocked", x.state(0), 1 + 64);
        CHECK.due("used at 38", x.used(0), 0);
        CHECK.events("reclaimed though blocked", x, 1, 0, 1, 2, 0, 3, 3, 0, 8, 4, 0, 38);
    }

    private static void blockedAndJammedDoesNotTrip() {
        FeederRelays x = Check.chain(2);
        x.settings(0, 0, 100, 2);
        x.options(0, true, 0, 50);
        x.jam(0, true);
        x.settings(1, 0, 100, 1000);
        x.fault(1, 1000);
        x.run(20);
        CHECK.due("over its limit, jammed and blocked", x.state(0), 1 + 2 + 32 + 64);
        CHECK.events("not tripped", x);
        x.options(0, false, 0, 50);
        x.run(1);
        CHECK.events("tripped when not held back, though jammed", x, 1, 0, 21);
    }

    private static void pickedUpReclaims() {
        FeederRelays x = closedAtEight(1);
        x.settings(0, 0, 100, 1000);
        x.fault(0, 1000);
        Check.runTo(x, 37);
        CHECK.due("picked up", x.state(0), 1 + 2);
        CHECK.due("used at 37", x.used(0), 1);
        x.run(1);
        CHECK.due("used at 38", x.used(0), 0);
        CHECK.due("its sum grows on", x.sum(0), 30);
        CHECK.events("reclaimed though picked up", x, 1, 0, 1, 2, 0, 3, 3, 0, 8, 4, 0, 38);
    }

    /** Relay 1 opens at 3 and waits until 8; then relay 0 is opened by hand. */
    private static FeederRelays waitingAndNotFed() {
        FeederRelays x = Scenes.pair(50);
        x.options(1, false, 1, 50);
        x.run(4);
        CHECK.due("waiting", x.state(1), 2 + 8);
        x.operate(0, false);
        return x;
    }

    private static void notFedClosesAgain() {
        FeederRelays x = waitingAndNotFed();
        Check.runTo(x, 7);
        CHECK.due("still waiting", x.state(1), 8);
        x.run(1);
        CHECK.due("closed though not fed", x.state(1), 1);
        CHECK.due("used", x.used(1), 1);
        CHECK.due("no current", x.current(1), 0);
        CHECK.events("closed again", x, 1, 1, 1, 2, 1, 3, 3, 1, 8);
    }

    private static void waitsWhileTheOneAboveOpens() {
        FeederRelays x = Scenes.pair(50);
        x.settings(0, 0, 100, 2);
        x.options(1, false, 1, 50);
        x.run(4);
        CHECK.due("the one above opens by its order", x.state(0), 2 + 16);
        CHECK.due("still waiting", x.state(1), 2 + 8);
        x.run(4);
        CHECK.due("closed", x.state(1), 1);
        CHECK.events("closed again", x, 1, 1, 1, 1, 0, 2, 2, 1, 3, 2, 0, 4, 5, 0, 4, 3, 1, 8);
    }

    private static void notFedReclaims() {
        FeederRelays x = waitingAndNotFed();
        Check.runTo(x, 37);
        CHECK.due("used at 37", x.used(1), 1);
        x.run(1);
        CHECK.due("used at 38", x.used(1), 0);
        CHECK.events("reclaimed though not fed", x, 1, 1, 1, 2, 1, 3, 3, 1, 8, 4, 1, 38);
    }

    private static void notFedTrips() {
        FeederRelays x = Scenes.pair(50);
        x.settings(1, 0, 100, 3);
        x.run(2);
        x.operate(0, false);
        x.run(1);
        CHECK.due("no current", x.current(1), 0);
        CHECK.due("picked up by its samples", x.effective(1), 707);
        CHECK.events("tripped though not fed", x, 1, 1, 3);
        x.run(2);
        CHECK.events("opened though not fed", x, 1, 1, 3, 2, 1, 5, 5, 1, 5);
    }

    private static void notFedMeasures() {
        FeederRelays x = Check.chain(3);
        for (int r = 0; r < 3; r++) {
            x.settings(r, 0, 5000, 1000);
        }
        x.load(2, 400);
        x.run(4);
        x.operate(0, false);
        for (int want : new int[] {346, 282, 200, 0}) {
            x.run(1);
            for (int r = 0; r < 3; r++) {
                CHECK.due("effective(" + r + ") at " + x.time(), x.effective(r), want);
            }
        }
    }

    // "It is BLOCKED if it is held back and knows ..": its breaker does not matter
    private static void openOneIsBlocked() {
        FeederRelays x = Scenes.heldPair(3);
        x.fault(1, 1000);
        x.run(1);
        x.operate(0, false);
        x.run(2);
        CHECK.due("open, the message under way", x.state(0), 16);
        x.run(1);
        CHECK.due("the message comes to the open one", x.known(1), 3);
        CHECK.due("open and blocked", x.state(0), 16 + 64);
    }

    private static void openOneSends() {
        FeederRelays x = Scenes.heldPair(1);
        x.fault(1, 1000);
        x.run(2);
        x.operate(1, false);
        x.run(3);
        CHECK.due("open, picked up by one sample", x.state(1), 2 + 16);
        x.run(1);
        CHECK.due("open, not picked up", x.state(1), 16);
        CHECK.due("changes of the open one", x.changes(1), 2);
        CHECK.due("known before it comes", x.known(1), 3);
        x.line(1, 0);
        x.run(1);
        CHECK.due("known when it came", x.known(1), 4);
    }

    /** Relay 1 trips at 1, opens at 3, closes at 8 and reclaims at 38; its line is cut but in one tick. */
    private static int knownOfOneSentAt(int tick) {
        FeederRelays x = Scenes.pair(50);
        x.options(1, false, 1, 50);
        x.line(1, 0);
        for (int t = 1; t <= tick + 1; t++) {
            x.line(1, t == tick ? 1 : 0);
            x.run(1);
            if (t == 3) {
                x.fault(1, 0);
            }
        }
        return x.known(1);
    }

    // Messages are sent when it changes, at 1 and 6, and when they are due, whatever the breaker does.
    private static void breakersSendNothing() {
        for (int tick = 1; tick <= 55; tick++) {
            int due = 0;
            for (int sent : new int[] {1, 2, 4}) {
                due = tick == sent ? 3 : due;
            }
            for (int sent : new int[] {6, 7, 9, 13, 21, 29, 37, 45, 53}) {
                due = tick == sent ? 4 : due;
            }
            CHECK.due("known of one sent at " + tick, knownOfOneSentAt(tick), due);
        }
    }

    private static void lockedOneStaysKnown() {
        FeederRelays x = Scenes.pair(50);
        x.run(2);
        CHECK.due("known with an order", x.known(1), 3);
        x.run(1);
        CHECK.due("locked", x.state(1), 2 + 16);
        CHECK.due("known when locked", x.known(1), 3);
        CHECK.due("changes when locked", x.changes(1), 1);
    }

    private static void openSectionIsSet() {
        FeederRelays x = Check.chain(2);
        x.operate(1, false);
        CHECK.yes("load of an open section", x.load(1, 70));
        CHECK.yes("fault of an open section", x.fault(1, 7));
        CHECK.due("current while open", x.current(0), 0);
        x.operate(1, true);
        CHECK.due("current when closed", x.current(0), 77);
    }

    /** A chain of three; the last one trips in tick 1, is jammed and fails at 3. */
    private static FeederRelays lastFailsAtThree() {
        FeederRelays x = Check.chain(3);
        x.settings(0, 0, 5000, 1000);
        x.settings(1, 0, 5000, 1000);
        x.settings(2, 0, 100, 1);
        x.options(2, false, 0, 2);
        x.jam(2, true);
        x.fault(2, 1000);
        return x;
    }

    // "if there is a relay directly above it, with its breaker closed and without an order"
    private static void onlyTheOneDirectlyAboveIfOpen() {
        FeederRelays x = lastFailsAtThree();
        x.run(2);
        x.operate(1, false);
        x.run(10);
        CHECK.events("none has an order from below", x, 1, 2, 1, 6, 2, 3);
        CHECK.due("state(0)", x.state(0), 1);
        CHECK.due("state(1)", x.state(1), 16);
    }

    private static void onlyTheOneDirectlyAboveIfOrdered() {
        FeederRelays x = lastFailsAtThree();
        x.settings(1, 0, 100, 1);
        x.options(1, false, 0, 50);
        x.jam(1, true);
        x.run(20);
        CHECK.events("none has an order from below", x, 1, 1, 1, 1, 2, 1, 6, 2, 3);
        CHECK.due("state(0)", x.state(0), 1);
        FeederRelays y = lastFailsAtThree();
        y.run(3);
        CHECK.events("the one directly above has", y, 1, 2, 1, 6, 2, 3, 7, 1, 3);
        CHECK.due("not the next one", y.state(0), 1);
    }

    private static void eachByItsOwnPatience() {
        FeederRelays x = Check.star(4);
        x.settings(0, 0, 5000, 1000);
        x.jam(0, true);
        int[] patiences = {50, 6, 3, 5};
        for (int r = 1; r < 4; r++) {
            x.settings(r, 0, 100, 1);
            x.options(r, false, 0, patiences[r]);
            x.jam(r, true);
            x.fault(r, 1000);
        }
        x.run(20);
        CHECK.events("each by its own patience", x,
            1, 1, 1, 1, 2, 1, 1, 3, 1, 6, 2, 4, 7, 0, 4, 6, 3, 6, 6, 1, 7);
    }

    // "each of these for all relays, from 0 up, before the next one"
    private static void allTripBeforeOneFails() {
        FeederRelays x = Check.star(3);
        x.settings(0, 0, 5000, 1000);
        x.settings(1, 0, 100, 1);
        x.options(1, false, 0, 2);
        x.jam(1, true);
        x.settings(2, 0, 100, 3);
        x.fault(1, 1000);
        x.fault(2, 1000);
        x.run(3);
        CHECK.events("2 trips before 1 fails", x, 1, 1, 1, 1, 2, 3, 6, 1, 3, 7, 0, 3);
    }

    // "Sets kind, pickup and time of relay r, from its next measuring on"
    private static void timeSetWhilePickedUp() {
        FeederRelays x = Scenes.quick(0);
        x.settings(0, 0, 100, 1000);
        x.run(4);
        x.settings(0, 0, 100, 3);
        CHECK.events("nothing before the next measuring", x);
        x.run(1);
        CHECK.events("a shorter time", x, 1, 0, 5);
        FeederRelays y = Scenes.quick(0);
        y.settings(0, 0, 100, 3);
        y.run(2);
        y.settings(0, 0, 100, 7);
        y.run(4);
        CHECK.events("a longer time at 6", y);
        y.run(1);
        CHECK.events("a longer time at 7", y, 1, 0, 7);
    }

    private static void settingsLeaveTheOrder() {
        FeederRelays x = Scenes.quick(0);
        x.run(1);
        x.settings(0, 2, 5000, 1000);
        CHECK.due("ordered", x.state(0), 1 + 2 + 4);
        x.run(1);
        CHECK.due("ordered, not picked up", x.state(0), 1 + 4);
        x.run(1);
        CHECK.due("opened, not picked up", x.state(0), 16);
        CHECK.events("opened all the same", x, 1, 0, 1, 2, 0, 3, 5, 0, 3);
    }

    private static void settingsLeaveTheSamples() {
        // The sample of 400 at tick 1 counts until tick 4, however often the relay is set.
        for (int tick = 1; tick <= 4; tick++) {
            FeederRelays x = Check.chain(1);
            x.load(0, 400);
            x.run(1);
            x.load(0, 0);
            Check.runTo(x, tick);
            x.settings(0, 1, 300, 9);
            CHECK.due("effective right after settings at " + tick, x.effective(0), 200);
            Check.runTo(x, 4);
            CHECK.due("effective at 4, settings at " + tick, x.effective(0), 200);
            x.run(1);
            CHECK.due("effective at 5, settings at " + tick, x.effective(0), 0);
        }
    }

    // "from a message that came at most 12 ticks ago": not sent, and whatever lag the line has then
    private static void twelveTicksFromComing() {
        FeederRelays x = Scenes.heldPair(8);
        x.fault(1, 1000);
        x.run(1);
        // Those sent at 2, 4 and 8 never come; none is sent at 9.
        x.line(1, 0);
        Check.runTo(x, 8);
        x.line(1, 8);
        x.run(1);
        CHECK.due("came at 9", x.state(0), 1 + 64);
        x.line(1, 0);
        Check.runTo(x, 21);
        CHECK.due("came 12 ticks ago", x.state(0), 1 + 64);
        x.run(1);
        CHECK.due("came 13 ticks ago", x.state(0), 1);
    }

    private static void cutLineIsSetAgain() {
        FeederRelays x = Scenes.heldPair(0);
        x.fault(1, 1000);
        // Sent and lost at 1, 2, 4 and 8; setting the line sends none and leaves the next one at 16.
        Check.runTo(x, 9);
        x.line(1, 1);
        Check.runTo(x, 16);
        CHECK.due("known at 16", x.known(1), 0);
        x.run(1);
        CHECK.due("known at 17", x.known(1), 3);
        x.line(1, 0);
        Check.runTo(x, 31);
        x.line(1, 1);
        x.run(2);
        CHECK.due("known at 33", x.known(1), 3);
        CHECK.due("blocked by the one sent at 32", x.state(0), 1 + 64);
        for (int tick = 10; tick <= 33; tick++) {
            FeederRelays y = Scenes.heldPair(0);
            y.fault(1, 1000);
            Check.runTo(y, 9);
            y.line(1, 0);
            Check.runTo(y, tick - 1);
            y.line(1, 1);
            y.run(1);
            y.line(1, 0);
            y.run(1);
            CHECK.due("known of one sent at " + tick, y.known(1), tick % 8 == 0 ? 3 : 0);
        }
    }
}
