/** Compares answers with those that are due, prints the wrong ones, and ends the test. */
final class Check {
    private int asked;
    private int wrong;

    void due(String call, long got, long want) {
        asked++;
        if (got != want) {
            wrong++;
            System.out.println(call + " answered " + got + ", due is " + want);
        }
    }

    void yes(String call, boolean got) {
        due(call, got ? 1 : 0, 1);
    }

    void no(String call, boolean got) {
        due(call, got ? 1 : 0, 0);
    }

    /** All events there are, each as kind, relay, time. */
    void events(String run, FeederRelays x, int... kindRelayTime) {
        due(run + ": events()", x.events(), kindRelayTime.length / 3);
        for (int i = 0; 3 * i < kindRelayTime.length; i++) {
            int code = kindRelayTime[3 * i] + 8 * kindRelayTime[3 * i + 1];
            due(run + ": event(" + i + ")", x.event(i), code);
            due(run + ": when(" + i + ")", x.when(i), kindRelayTime[3 * i + 2]);
        }
        due(run + ": event after the last", x.event(x.events()), -1);
        due(run + ": when after the last", x.when(x.events()), -1);
    }

    void end() {
        System.out.println(wrong == 0 ? asked + " answers, all as due" : wrong + " of " + asked + " answers not as due");
        if (wrong != 0) {
            System.exit(1);
        }
    }

    /** Relays one below the other. */
    static FeederRelays chain(int relays) {
        FeederRelays x = new FeederRelays();
        for (int r = 0; r < relays; r++) {
            x.relay(r - 1);
        }
        return x;
    }

    /** Relay 0 with all others directly below it. */
    static FeederRelays star(int relays) {
        FeederRelays x = new FeederRelays();
        for (int r = 0; r < relays; r++) {
            x.relay(r == 0 ? -1 : 0);
        }
        return x;
    }

    static void runTo(FeederRelays x, int time) {
        while (x.time() < time) {
            x.run(Math.min(20, time - x.time()));
        }
    }
}
