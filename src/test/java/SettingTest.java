/** Promises 3 to 6 and 8: what is set, what it is at first, and from when on; BoundsTest has the bounds. */
public final class SettingTest {
    private static final int LEAST = Integer.MIN_VALUE;
    private static final int MOST = Integer.MAX_VALUE;
    private static final Check CHECK = new Check();

    public static void main(String[] args) {
        settingsAtFirst();
        settingsRefusedChangeNothing();
        settingsFromTheNextMeasuringOn();
        optionsAtFirst();
        optionsRefusedChangeNothing();
        loadEdges();
        faultEdges();
        lineRefusedChangesNothing();
        CHECK.end();
    }

    private static void settingsAtFirst() {
        FeederRelays x = Check.chain(1);
        x.load(0, 100);
        x.run(20);
        CHECK.due("100 does not pick up at first", x.state(0), 1);
        x.load(0, 101);
        x.run(4);
        CHECK.due("101 picks up at first", x.state(0), 3);
        x.run(4);
        CHECK.due("sum by kind 0 at first", x.sum(0), 5);
        CHECK.events("time 5 at first", x, 1, 0, 28);
    }

    private static void settingsRefusedChangeNothing() {
        FeederRelays x = Check.chain(1);
        x.settings(0, 1, 300, 2);
        x.settings(0, 3, 1, 1);
        x.settings(0, 0, 0, 1);
        x.settings(0, 0, 1, 0);
        x.load(0, 1000);
        x.run(1);
        CHECK.due("sum by the kind and pickup that were taken", x.sum(0), 200);
        CHECK.events("limit 600 not reached", x);
        x.run(1);
        CHECK.due("sum of 200 and 407", x.sum(0), 607);
        CHECK.events("limit 600 reached", x, 1, 0, 2);
    }

    private static void settingsFromTheNextMeasuringOn() {
        FeederRelays x = Check.chain(1);
        x.settings(0, 0, 100, 1000);
        x.fault(0, 400);
        x.run(4);
        x.settings(0, 1, 100, 1000);
        CHECK.due("the sum stays", x.sum(0), 4);
        CHECK.due("the state stays", x.state(0), 3);
        x.run(1);
        CHECK.due("the sum grows by the new kind", x.sum(0), 304);
        x.settings(0, 1, 5000, 1000);
        CHECK.due("picked up until measured", x.state(0), 3);
        CHECK.due("the sum stays until measured", x.sum(0), 304);
        x.run(1);
        CHECK.due("not picked up by the new pickup", x.state(0), 1);
        CHECK.due("sum 0 by the new pickup", x.sum(0), 0);
    }

    private static void optionsAtFirst() {
        FeederRelays x = Check.chain(2);
        x.settings(0, 0, 5000, 1000);
        x.jam(1, true);
        x.fault(1, 1000);
        x.run(20);
        CHECK.events("no shots, patience 10, not held back at first", x,
            1, 1, 5, 6, 1, 15, 7, 0, 15, 2, 0, 17, 5, 0, 17);
    }

    private static void optionsRefusedChangeNothing() {
        FeederRelays x = Check.chain(2);
        x.settings(0, 0, 100, 1000);
        x.options(1, false, 1, 3);
        x.options(0, true, 0, 10);
        x.options(1, false, 0, 0);
        x.options(1, false, 4, 4);
        x.options(0, false, 4, 10);
        x.fault(1, 1000);
        x.run(7);
        CHECK.due("a shot is left", x.state(1), 2 + 8);
        CHECK.due("still held back", x.state(0), 1 + 2 + 64);
    }

    private static void loadEdges() {
        FeederRelays x = Check.chain(2);
        x.load(1, 7);
        for (int amount : new int[] {LEAST, -1, 2001, MOST}) {
            CHECK.no("load " + amount, x.load(1, amount));
            CHECK.due("current after a refusal", x.current(1), 7);
        }
        CHECK.yes("load 2000", x.load(1, 2000));
        CHECK.due("current of load 2000", x.current(1), 2000);
        CHECK.yes("load 0", x.load(1, 0));
        CHECK.due("current of load 0", x.current(1), 0);
        CHECK.no("load of relay 2", x.load(2, 1));
        CHECK.no("load of relay -1", x.load(-1, 1));
    }

    private static void faultEdges() {
        FeederRelays x = Check.chain(2);
        x.fault(1, 7);
        for (int amount : new int[] {LEAST, -1, 20001, MOST}) {
            CHECK.no("fault " + amount, x.fault(1, amount));
            CHECK.due("current after a refusal", x.current(1), 7);
        }
        CHECK.yes("fault 20000", x.fault(1, 20000));
        CHECK.due("current of fault 20000", x.current(1), 20000);
        CHECK.yes("load beside the fault", x.load(1, 2000));
        CHECK.due("current of both", x.current(1), 22000);
        CHECK.yes("fault 0", x.fault(1, 0));
        CHECK.due("current of the load alone", x.current(1), 2000);
        CHECK.no("fault of relay 2", x.fault(2, 1));
        CHECK.no("fault of relay -1", x.fault(-1, 1));
    }

    private static void lineRefusedChangesNothing() {
        FeederRelays x = Check.chain(2);
        x.line(1, 3);
        x.line(1, 9);
        x.line(1, -1);
        x.fault(1, 1000);
        x.run(3);
        CHECK.due("nothing came at time 3", x.known(1), 0);
        x.run(1);
        CHECK.due("it came at time 4", x.known(1), 3);
    }
}
