/** Small trees in states that several tests begin with. */
final class Scenes {
    private Scenes() { }

    /** One relay that trips in the first tick of its fault, and opens two ticks later. */
    static FeederRelays quick(int shots) {
        FeederRelays x = Check.chain(1);
        x.settings(0, 0, 100, 1);
        x.options(0, false, shots, 50);
        x.fault(0, 1000);
        return x;
    }

    /** Two in a chain; the lower one trips in its first tick, the upper one never by itself. */
    static FeederRelays pair(int patience) {
        FeederRelays x = Check.chain(2);
        x.settings(0, 0, 5000, 1000);
        x.settings(1, 0, 100, 1);
        x.options(1, false, 0, patience);
        x.fault(1, 1000);
        return x;
    }

    /** A chain of two, the upper one held back; neither trips by itself. */
    static FeederRelays heldPair(int lag) {
        FeederRelays x = Check.chain(2);
        x.settings(0, 0, 5000, 1000);
        x.settings(1, 0, 100, 1000);
        x.options(0, true, 0, 50);
        x.line(1, lag);
        return x;
    }

    /** Relay 0 with some below it that all trip in the first tick of their faults. */
    static FeederRelays manyAtOnce(int below) {
        FeederRelays x = Check.star(1 + below);
        x.settings(0, 0, 5000, 1000);
        for (int r = 1; r <= below; r++) {
            x.settings(r, 0, 100, 1);
            x.fault(r, 400);
        }
        return x;
    }

    /** Seven below relay 0, nine times tripped and closed by hand: 189 events, all stored, at time 180. */
    static FeederRelays nineRounds() {
        FeederRelays x = manyAtOnce(7);
        for (int round = 0; round < 9; round++) {
            x.run(20);
            closeSeven(x);
        }
        return x;
    }

    static void closeSeven(FeederRelays x) {
        for (int r = 1; r < 8; r++) {
            x.operate(r, true);
        }
    }
}
