/** Promises 1, 2, 10 and 12: a new object, making relays, the time. */
public final class BuildingTest {
    private static final Check CHECK = new Check();

    public static void main(String[] args) {
        newObject();
        newRelay();
        firstRelay();
        aboveMustBeARelay();
        eightRelays();
        noRelayAfterTheStart();
        runAndTime();
        CHECK.end();
    }

    private static void newObject() {
        FeederRelays x = new FeederRelays();
        CHECK.due("time()", x.time(), 0);
        CHECK.due("events()", x.events(), 0);
        CHECK.due("crash()", x.crash(), 0);
        for (int r : new int[] {Integer.MIN_VALUE, -1, 0, 7, 8, Integer.MAX_VALUE}) {
            noRelay(x, r);
        }
        CHECK.due("relay(-1)", x.relay(-1), 0);
    }

    private static void noRelay(FeederRelays x, int r) {
        String of = " of no relay " + r;
        CHECK.due("current" + of, x.current(r), -1);
        CHECK.due("state" + of, x.state(r), -1);
        CHECK.due("sum" + of, x.sum(r), -1);
        CHECK.due("used" + of, x.used(r), -1);
        CHECK.due("changes" + of, x.changes(r), -1);
        CHECK.due("known" + of, x.known(r), -1);
        CHECK.due("effective" + of, x.effective(r), -1);
        CHECK.due("event" + of, x.event(r), -1);
        CHECK.due("when" + of, x.when(r), -1);
        CHECK.no("settings" + of, x.settings(r, 0, 100, 5));
        CHECK.no("options" + of, x.options(r, false, 0, 10));
        CHECK.no("load" + of, x.load(r, 0));
        CHECK.no("fault" + of, x.fault(r, 0));
        CHECK.no("jam" + of, x.jam(r, true));
        CHECK.no("line" + of, x.line(r, 1));
        CHECK.no("operate" + of, x.operate(r, true));
    }

    private static void newRelay() {
        FeederRelays x = Check.chain(2);
        for (int r = 0; r < 2; r++) {
            CHECK.due("current of a new relay", x.current(r), 0);
            CHECK.due("state of a new relay", x.state(r), 1);
            CHECK.due("sum of a new relay", x.sum(r), 0);
            CHECK.due("used of a new relay", x.used(r), 0);
            CHECK.due("changes of a new relay", x.changes(r), 0);
            CHECK.due("effective of a new relay", x.effective(r), 0);
        }
        CHECK.due("known of relay 0", x.known(0), -1);
        CHECK.due("known of a new relay", x.known(1), 0);
        noRelay(x, 2);
        noRelay(x, -1);
    }

    private static void firstRelay() {
        for (int above : new int[] {Integer.MIN_VALUE, -2, 0, 1, Integer.MAX_VALUE}) {
            FeederRelays x = new FeederRelays();
            CHECK.due("first relay(" + above + ")", x.relay(above), -1);
            CHECK.due("state(0) after a refusal", x.state(0), -1);
            CHECK.due("relay(-1) after a refusal", x.relay(-1), 0);
        }
    }

    private static void aboveMustBeARelay() {
        FeederRelays x = Check.chain(2);
        for (int above : new int[] {Integer.MIN_VALUE, -2, -1, 2, 3, Integer.MAX_VALUE}) {
            CHECK.due("third relay(" + above + ")", x.relay(above), -1);
        }
        CHECK.due("relay(1)", x.relay(1), 2);
        CHECK.due("relay(0)", x.relay(0), 3);
    }

    private static void eightRelays() {
        FeederRelays x = new FeederRelays();
        for (int r = 0; r < 8; r++) {
            CHECK.due("relay " + r, x.relay(r - 1), r);
        }
        CHECK.due("a ninth relay below 7", x.relay(7), -1);
        CHECK.due("a ninth relay below 0", x.relay(0), -1);
        CHECK.due("a ninth relay below none", x.relay(-1), -1);
        CHECK.due("state(7)", x.state(7), 1);
        CHECK.due("state(8)", x.state(8), -1);
    }

    private static void noRelayAfterTheStart() {
        FeederRelays x = Check.chain(1);
        CHECK.due("run(21) refused", x.run(21), -1);
        CHECK.due("relay(0) at time 0", x.relay(0), 1);
        CHECK.due("crash()", x.crash(), 0);
        CHECK.due("relay(0) at time 0 after a crash", x.relay(0), 2);
        x.run(1);
        CHECK.due("relay(0) at time 1", x.relay(0), -1);
        CHECK.due("crash()", x.crash(), 0);
        CHECK.due("relay(0) at time 1 after a crash", x.relay(0), -1);
    }

    private static void runAndTime() {
        for (FeederRelays x : new FeederRelays[] {new FeederRelays(), Check.chain(3)}) {
            for (int ticks : new int[] {Integer.MIN_VALUE, -1, 0, 21, Integer.MAX_VALUE}) {
                CHECK.due("run(" + ticks + ")", x.run(ticks), -1);
                CHECK.due("time() after a refusal", x.time(), 0);
            }
            CHECK.due("run(1)", x.run(1), 1);
            CHECK.due("run(20)", x.run(20), 21);
            CHECK.due("run(7)", x.run(7), 28);
            CHECK.due("time()", x.time(), 28);
            x.crash();
            CHECK.due("time() after a crash", x.time(), 28);
        }
        FeederRelays once = Check.chain(1);
        FeederRelays often = Check.chain(1);
        once.fault(0, 300);
        often.fault(0, 300);
        once.run(20);
        for (int i = 0; i < 20; i++) {
            often.run(1);
        }
        CHECK.due("state after 20 single ticks", often.state(0), once.state(0));
        CHECK.due("events after 20 single ticks", often.events(), once.events());
    }
}
