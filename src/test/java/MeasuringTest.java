/** Promises 13, 15, 17 and 19: currents, sums, changes and effective currents, and the limits of each kind. */
public final class MeasuringTest {
    private static final Check CHECK = new Check();

    public static void main(String[] args) {
        currentsOfATree();
        effectiveOfFourSamples();
        greatestCurrents();
        pickupIsExceededNotReached();
        sumsByKind();
        sumOfGreatCurrents();
        limitsByKind();
        limitOfTheGreatestSettings();
        changesAreCounted();
        measuredAfterTheBreakers();
        CHECK.end();
    }

    private static void currentsOfATree() {
        FeederRelays x = new FeederRelays();
        x.relay(-1);
        x.relay(0);
        x.relay(0);
        x.relay(1);
        x.relay(3);
        int[] loads = {1, 10, 100, 1000, 2000};
        for (int r = 0; r < loads.length; r++) {
            x.load(r, loads[r]);
        }
        x.fault(3, 20000);
        currents("all closed", x, 23111, 23010, 100, 23000, 2000);
        x.operate(3, false);
        currents("3 open", x, 111, 10, 100, 0, 0);
        x.operate(1, false);
        currents("1 and 3 open", x, 101, 0, 100, 0, 0);
        x.operate(3, true);
        currents("1 open", x, 101, 0, 100, 0, 0);
        x.operate(0, false);
        x.operate(1, true);
        currents("0 open", x, 0, 0, 0, 0, 0);
        x.operate(0, true);
        currents("all closed again", x, 23111, 23010, 100, 23000, 2000);
    }

    private static void currents(String how, FeederRelays x, int... want) {
        for (int r = 0; r < want.length; r++) {
            CHECK.due(how + ": current(" + r + ")", x.current(r), want[r]);
        }
        CHECK.due(how + ": current of none", x.current(want.length), -1);
        CHECK.due(how + ": current(-1)", x.current(-1), -1);
    }

    private static void effectiveOfFourSamples() {
        FeederRelays x = Check.chain(1);
        x.load(0, 100);
        int[] up = {50, 70, 86, 100, 100};
        for (int want : up) {
            x.run(1);
            CHECK.due("effective at " + x.time(), x.effective(0), want);
        }
        x.load(0, 0);
        CHECK.due("effective from samples, not from now", x.effective(0), 100);
        int[] down = {86, 70, 50, 0};
        for (int want : down) {
            x.run(1);
            CHECK.due("effective at " + x.time(), x.effective(0), want);
        }
        x.load(0, 1);
        x.run(3);
        CHECK.due("effective of 0 1 1 1", x.effective(0), 0);
        x.run(1);
        CHECK.due("effective of 1 1 1 1", x.effective(0), 1);
    }

    private static void greatestCurrents() {
        FeederRelays x = Check.chain(8);
        for (int r = 0; r < 8; r++) {
            x.load(r, 2000);
            x.fault(r, 20000);
            x.settings(r, 0, 5000, 1000);
        }
        x.run(1);
        for (int r = 0; r < 8; r++) {
            CHECK.due("effective(" + r + ") at 1", x.effective(r), 11000 * (8 - r));
        }
        x.run(3);
        for (int r = 0; r < 8; r++) {
            CHECK.due("effective(" + r + ") at 4", x.effective(r), 22000 * (8 - r));
        }
    }

    private static void pickupIsExceededNotReached() {
        FeederRelays x = Check.chain(1);
        x.settings(0, 1, 250, 1000);
        x.load(0, 250);
        x.run(5);
        CHECK.due("state at the pickup", x.state(0), 1);
        CHECK.due("sum at the pickup", x.sum(0), 0);
        x.load(0, 251);
        x.run(3);
        CHECK.due("one sample still at the pickup", x.state(0), 1);
        x.run(1);
        CHECK.due("state above the pickup", x.state(0), 3);
        CHECK.due("sum above the pickup", x.sum(0), 1);
        x.load(0, 250);
        x.run(1);
        CHECK.due("at the pickup again", x.state(0), 1);
        CHECK.due("sum at the pickup again", x.sum(0), 0);
    }

    private static void sumsByKind() {
        long[][] want = {{1, 2, 3, 4, 5}, {100, 282, 528, 828, 1128}, {30000, 99524, 209240, 359240, 509240}};
        for (int kind = 0; kind <= 2; kind++) {
            FeederRelays x = Check.chain(1);
            x.settings(0, kind, 100, 1000);
            x.fault(0, 400);
            for (long sum : want[kind]) {
                x.run(1);
                CHECK.due("sum of kind " + kind + " at " + x.time(), x.sum(0), sum);
            }
            x.fault(0, 0);
            x.run(3);
            CHECK.due("picked up by one sample of four", x.state(0), 3);
            x.run(1);
            CHECK.due("sum of kind " + kind + " when not picked up", x.sum(0), 0);
            CHECK.due("sum of none", x.sum(1), -1);
        }
    }

    private static void sumOfGreatCurrents() {
        FeederRelays x = Check.star(8);
        x.settings(0, 2, 5000, 1000);
        for (int r = 0; r < 8; r++) {
            x.load(r, 2000);
            x.fault(r, 20000);
        }
        x.jam(0, true);
        for (int r = 1; r < 8; r++) {
            x.settings(r, 0, 5000, 1000);
        }
        x.run(20);
        long sum = 0;
        for (int t = 1; t <= 20; t++) {
            double mean = 176000.0 * 176000.0 * Math.min(t, 4) / 4;
            long effective = (long) Math.floor(Math.sqrt(mean));
            sum += effective * effective - 5000L * 5000L;
        }
        CHECK.due("sum of the greatest currents", x.sum(0), sum);
    }

    private static void limitsByKind() {
        // Sums at 1, 2, 3 of fault 400 and pickup 100 are those of sumsByKind.
        int[][] kindTimeTick = {
            {0, 1, 1}, {0, 2, 2}, {0, 3, 3},
            {1, 1, 1}, {1, 2, 2}, {1, 3, 3},
            {2, 3, 1}, {2, 4, 2}, {2, 9, 2}, {2, 10, 3}};
        for (int[] row : kindTimeTick) {
            FeederRelays x = Check.chain(1);
            x.settings(0, row[0], 100, row[1]);
            x.fault(0, 400);
            x.run(4);
            CHECK.due("kind " + row[0] + " time " + row[1] + ": first event", x.event(0), 1);
            CHECK.due("kind " + row[0] + " time " + row[1] + ": when", x.when(0), row[2]);
        }
    }

    private static void limitOfTheGreatestSettings() {
        FeederRelays x = Check.chain(1);
        x.settings(0, 2, 5000, 1000);
        x.fault(0, 20000);
        long limit = 1000L * 5000 * 5000;
        while (x.events() == 0 && x.time() < 200) {
            CHECK.yes("below the limit without an order", x.sum(0) < limit);
            x.run(1);
        }
        CHECK.yes("at the limit with an order", x.sum(0) >= limit);
        CHECK.due("state with an order", x.state(0), 7);
    }

    private static void changesAreCounted() {
        FeederRelays x = Check.chain(2);
        x.settings(0, 0, 600, 1000);
        x.settings(1, 0, 100, 1000);
        for (int i = 0; i < 3; i++) {
            x.fault(1, 500);
            x.run(6);
            CHECK.due("changes(1) when picked up", x.changes(1), 2 * i + 1);
            x.fault(1, 0);
            x.run(6);
            CHECK.due("changes(1) when not", x.changes(1), 2 * i + 2);
        }
        CHECK.due("changes(0) below its pickup", x.changes(0), 0);
        x.load(0, 700);
        x.run(4);
        CHECK.due("changes(0) of relay 0", x.changes(0), 1);
        CHECK.due("changes of none", x.changes(2), -1);
    }

    private static void measuredAfterTheBreakers() {
        FeederRelays x = Check.chain(1);
        x.settings(0, 0, 100, 1);
        x.fault(0, 1000);
        x.run(3);
        CHECK.due("opened at 3, sample 0 at 3", x.effective(0), 707);
        x.run(1);
        CHECK.due("two samples of 1000", x.effective(0), 707);
        x.run(1);
        CHECK.due("one sample of 1000", x.effective(0), 500);
        x.run(1);
        CHECK.due("none", x.effective(0), 0);
    }
}
