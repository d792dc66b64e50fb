/**
 * Every argument with its bounds: the last values that are let through and the first that
 * are refused, on both sides, the least and the greatest int; and that the last ones work.
 */
public final class BoundsTest {
    private static final Check CHECK = new Check();

    /** A call on an object with one changing argument: whether that is let through. */
    private interface Call {
        boolean takes(FeederRelays x, int value);
    }

    public static void main(String[] args) {
        kindIsZeroToTwo();
        pickupIsOneToFiveThousand();
        timeIsOneToAThousand();
        shotsAreZeroToThree();
        patienceIsOneToFifty();
        loadIsZeroToTwoThousand();
        faultIsZeroToTwentyThousand();
        lagIsZeroToEight();
        ticksAreOneToTwenty();
        everyRelayThatThereIsAndNoOther();
        aboveIsARelay();
        theFirstIsBelowNone();
        eventsThatThereAreAndNoOther();

        eachKindWorks();
        leastAndGreatestPickupWork();
        leastAndGreatestTimeWork();
        noShotsAndThreeShotsWork();
        leastAndGreatestPatienceWork();
        leastAndGreatestAmountsWork();
        leastAndGreatestLagWork();
        oneTickAndTwentyTicksWork();
        the512thCall();
        eventsAtTheEnd();
        mostChanges();
        CHECK.end();
    }

    private static void bounds(String what, int relays, int least, int most, Call call) {
        int[] refused = {Integer.MIN_VALUE, Integer.MIN_VALUE + 1, -(1 << 16) + least, least - 1,
            most + 1, (1 << 16) + least, (1 << 24) + least, Integer.MAX_VALUE - 1, Integer.MAX_VALUE};
        for (int value : refused) {
            CHECK.no(what + " " + value + " of " + relays, call.takes(Check.chain(relays), value));
        }
        for (int value = least; value <= most; value++) {
            CHECK.yes(what + " " + value + " of " + relays, call.takes(Check.chain(relays), value));
        }
    }

    // "kind is not 0 .. 2"
    private static void kindIsZeroToTwo() {
        bounds("settings: kind", 2, 0, 2, (x, kind) -> x.settings(1, kind, 100, 5));
    }

    // "pickup not 1 .. 5000"
    private static void pickupIsOneToFiveThousand() {
        bounds("settings: pickup", 2, 1, 5000, (x, pickup) -> x.settings(1, 2, pickup, 5));
    }

    // "or time not 1 .. 1000"
    private static void timeIsOneToAThousand() {
        bounds("settings: time", 2, 1, 1000, (x, time) -> x.settings(1, 2, 100, time));
    }

    // "or shots is not 0 .. 3"
    private static void shotsAreZeroToThree() {
        bounds("options: shots", 2, 0, 3, (x, shots) -> x.options(1, true, shots, 10));
        bounds("options: shots", 2, 0, 3, (x, shots) -> x.options(1, false, shots, 10));
    }

    // "or patience not 1 .. 50"
    private static void patienceIsOneToFifty() {
        bounds("options: patience", 2, 1, 50, (x, patience) -> x.options(1, true, 0, patience));
        bounds("options: patience", 2, 1, 50, (x, patience) -> x.options(1, false, 3, patience));
    }

    // "or amount is not 0 .. 2000"
    private static void loadIsZeroToTwoThousand() {
        bounds("load: amount", 2, 0, 2000, (x, amount) -> x.load(1, amount));
    }

    // "or amount is not 0 .. 20000"
    private static void faultIsZeroToTwentyThousand() {
        bounds("fault: amount", 2, 0, 20000, (x, amount) -> x.fault(1, amount));
    }

    // "or lag is not 0 .. 8"
    private static void lagIsZeroToEight() {
        bounds("line: lag", 2, 0, 8, (x, lag) -> x.line(1, lag));
        bounds("line: lag of relay 0", 1, 0, 8, (x, lag) -> x.line(0, lag));
    }

    // "-1 when ticks is not 1 .. 20", with and without relays
    private static void ticksAreOneToTwenty() {
        for (int relays : new int[] {0, 1, 8}) {
            bounds("run: ticks", relays, 1, 20, (x, ticks) -> x.run(ticks) != -1);
        }
    }

    // "false when there is no relay r", "-1 when there is none": no relays yet, one, seven, eight
    private static void everyRelayThatThereIsAndNoOther() {
        for (int relays : new int[] {0, 1, 7, 8}) {
            int last = relays - 1;
            bounds("settings: r", relays, 0, last, (x, r) -> x.settings(r, 0, 100, 5));
            bounds("options: r", relays, 0, last, (x, r) -> x.options(r, false, 0, 10));
            bounds("load: s", relays, 0, last, (x, s) -> x.load(s, 0));
            bounds("fault: s", relays, 0, last, (x, s) -> x.fault(s, 0));
            bounds("jam: r", relays, 0, last, (x, r) -> x.jam(r, true));
            bounds("jam off: r", relays, 0, last, (x, r) -> x.jam(r, false));
            bounds("line: r", relays, 0, last, (x, r) -> x.line(r, 0));
            bounds("operate open: r", relays, 0, last, (x, r) -> x.operate(r, false));
            bounds("operate closed: r", relays, 0, last, (x, r) -> x.operate(r, true));
            bounds("current: r", relays, 0, last, (x, r) -> there(x.current(r), 0));
            bounds("state: r", relays, 0, last, (x, r) -> there(x.state(r), 1));
            bounds("sum: r", relays, 0, last, (x, r) -> there(x.sum(r), 0));
            bounds("used: r", relays, 0, last, (x, r) -> there(x.used(r), 0));
            bounds("changes: r", relays, 0, last, (x, r) -> there(x.changes(r), 0));
            bounds("effective: r", relays, 0, last, (x, r) -> there(x.effective(r), 0));
            // "-1 when there is no relay r or none above it": relay 0 is as refused as -1.
            bounds("known: r", relays, 1, Math.max(0, last), (x, r) -> there(x.known(r), 0));
        }
    }

    private static boolean there(long got, long atFirst) {
        if (got != -1) {
            CHECK.due("at first", got, atFirst);
        }
        return got != -1;
    }

    // "-1 when there are eight, the time is not 0, or above is not a relay"
    private static void aboveIsARelay() {
        for (int relays = 1; relays <= 7; relays++) {
            int next = relays;
            bounds("relay: above", relays, 0, relays - 1, (x, above) -> {
                int made = x.relay(above);
                CHECK.yes("its number is " + next, made == next || made == -1);
                return made != -1;
            });
            bounds("relay at time 1: above", relays, 0, -1, (x, above) -> {
                x.run(1);
                return x.relay(above) != -1;
            });
        }
        bounds("ninth relay: above", 8, 0, -1, (x, above) -> x.relay(above) != -1);
        for (int above = -1; above <= 8; above++) {
            CHECK.due("ninth relay(" + above + ")", Check.chain(8).relay(above), -1);
        }
    }

    // "(for the first one: not -1)"
    private static void theFirstIsBelowNone() {
        bounds("first relay: above", 0, -1, -1, (x, above) -> x.relay(above) == 0);
        bounds("first relay at time 1: above", 0, 0, -1, (x, above) -> {
            x.run(1);
            return x.relay(above) != -1;
        });
        FeederRelays late = new FeederRelays();
        late.run(1);
        CHECK.due("first relay(-1) at time 1", late.relay(-1), -1);
    }

    // "Event i (from 0) ..; -1 when there is none": none, one and seven events
    private static void eventsThatThereAreAndNoOther() {
        for (int events : new int[] {0, 1, 7}) {
            bounds("event: i", 0, 0, events - 1, (none, i) -> tripped(events).event(i) != -1);
            bounds("when: i", 0, 0, events - 1, (none, i) -> tripped(events).when(i) != -1);
        }
    }

    private static FeederRelays tripped(int events) {
        FeederRelays x = Scenes.manyAtOnce(events);
        x.run(1);
        return x;
    }

    private static void eachKindWorks() {
        // Effective 301 at a pickup of 300.
        long[] grown = {1, 1, 301 * 301 - 300 * 300};
        for (int kind = 0; kind <= 2; kind++) {
            FeederRelays x = Check.chain(1);
            x.settings(0, kind, 300, 1000);
            x.fault(0, 602);
            x.run(1);
            CHECK.due("sum of kind " + kind, x.sum(0), grown[kind]);
        }
    }

    private static void leastAndGreatestPickupWork() {
        for (int pickup : new int[] {1, 5000}) {
            FeederRelays x = Check.chain(1);
            x.settings(0, 0, pickup, 1000);
            x.fault(0, pickup);
            x.run(5);
            CHECK.due("at pickup " + pickup, x.state(0), 1);
            x.fault(0, pickup + 1);
            x.run(4);
            CHECK.due("above pickup " + pickup, x.state(0), 3);
        }
    }

    private static void leastAndGreatestTimeWork() {
        FeederRelays x = Scenes.quick(0);
        x.run(1);
        CHECK.events("time 1", x, 1, 0, 1);
        FeederRelays y = Check.chain(1);
        y.settings(0, 0, 100, 1000);
        y.fault(0, 1000);
        Check.runTo(y, 999);
        CHECK.due("state at 999", y.state(0), 3);
        CHECK.events("time 1000 at 999", y);
        y.run(1);
        CHECK.events("time 1000 at 1000", y, 1, 0, 1000);
    }

    private static void noShotsAndThreeShotsWork() {
        int[] closings = {0, 1, 2, 3};
        for (int shots = 0; shots <= 3; shots++) {
            FeederRelays x = Scenes.quick(shots);
            Check.runTo(x, 200);
            int closed = 0;
            for (int i = 0; i < x.events(); i++) {
                closed += x.event(i) == 3 ? 1 : 0;
            }
            CHECK.due("closings with shots " + shots, closed, closings[shots]);
            CHECK.due("used with shots " + shots, x.used(0), shots);
            CHECK.due("state with shots " + shots, x.state(0), 16);
        }
    }

    private static void leastAndGreatestPatienceWork() {
        for (int patience : new int[] {1, 50}) {
            FeederRelays x = Scenes.pair(patience);
            x.jam(1, true);
            Check.runTo(x, patience);
            CHECK.events("before patience " + patience, x, 1, 1, 1);
            x.run(1);
            CHECK.events("at patience " + patience, x, 1, 1, 1, 6, 1, 1 + patience, 7, 0, 1 + patience);
        }
    }

    private static void leastAndGreatestAmountsWork() {
        FeederRelays x = Check.chain(2);
        x.load(1, 2000);
        CHECK.due("current of load 2000", x.current(0), 2000);
        x.fault(1, 20000);
        CHECK.due("current of load 2000 and fault 20000", x.current(0), 22000);
        x.load(1, 0);
        CHECK.due("current of load 0 and fault 20000", x.current(0), 20000);
        x.fault(1, 0);
        CHECK.due("current of load 0 and fault 0", x.current(0), 0);
    }

    private static void leastAndGreatestLagWork() {
        for (int lag : new int[] {1, 8}) {
            FeederRelays x = Scenes.heldPair(lag);
            x.fault(1, 1000);
            Check.runTo(x, lag);
            CHECK.due("known a tick before lag " + lag, x.known(1), 0);
            x.run(1);
            CHECK.due("known at lag " + lag, x.known(1), 3);
        }
        FeederRelays cut = Scenes.heldPair(0);
        cut.fault(1, 1000);
        Check.runTo(cut, 100);
        CHECK.due("known with lag 0", cut.known(1), 0);
    }

    private static void oneTickAndTwentyTicksWork() {
        for (int ticks : new int[] {1, 20}) {
            FeederRelays x = Check.chain(1);
            x.settings(0, 0, 100, 1000);
            x.fault(0, 1000);
            CHECK.due("run(" + ticks + ")", x.run(ticks), ticks);
            CHECK.due("ticks measured by run(" + ticks + ")", x.sum(0), ticks);
            CHECK.due("run(" + ticks + ") again", x.run(ticks), 2 * ticks);
            CHECK.due("ticks measured by both", x.sum(0), 2 * ticks);
        }
    }

    // "An object is used for at most 512 calls": the sum is at its greatest after as many ticks as they make.
    private static void the512thCall() {
        FeederRelays x = new FeederRelays();
        x.relay(-1);
        x.settings(0, 2, 1, 1000);
        x.jam(0, true);
        x.load(0, 2000);
        x.fault(0, 20000);
        for (int call = 6; call <= 510; call++) {
            x.run(20);
        }
        long steady = 22000L * 22000 - 1;
        long first = 11000L * 11000 - 1 + 15556L * 15556 - 1 + 19052L * 19052 - 1;
        CHECK.due("the 511th call, time()", x.time(), 505 * 20);
        CHECK.due("the 512th call, sum(0)", x.sum(0), first + (505 * 20 - 3) * steady);
    }

    // As late as 512 calls allow: every time of an order, a message and an event is still right.
    private static void eventsAtTheEnd() {
        FeederRelays x = Scenes.pair(3);
        x.fault(1, 0);
        x.options(0, true, 0, 50);
        x.jam(1, true);
        for (int call = 0; call < 480; call++) {
            x.run(20);
        }
        x.fault(1, 1000);
        x.run(1);
        CHECK.due("known at 9601", x.known(1), 0);
        x.run(1);
        CHECK.due("known at 9602", x.known(1), 3);
        CHECK.due("blocked at 9602", x.state(0), 1 + 64);
        x.run(4);
        CHECK.events("at the end", x, 1, 1, 9601, 6, 1, 9604, 7, 0, 9604, 2, 0, 9606, 5, 0, 9606);
    }

    /** Four changes in two calls: picked up and not, twice. */
    private static void mostChanges() {
        FeederRelays x = Scenes.pair(50);
        x.options(1, false, 1, 50);
        for (int round = 1; round <= 160; round++) {
            x.run(20);
            x.operate(1, true);
            if (round % 20 == 0) {
                CHECK.due("changes after round " + round, x.changes(1), 4 * round);
                CHECK.due("known after round " + round, x.known(1), 8 * round);
                CHECK.due("events after round " + round, x.events(), Math.min(200, 6 * round));
            }
        }
    }
}
