import java.util.ArrayList;
import java.util.List;

/**
 * What a call does not name stays: setting again what is set already, moving a breaker by hand to
 * where it is already, and looking change nothing, in each tick of a busy plant, then or later.
 */
public final class StaysTest {
    private static final int RELAYS = 8;
    private static final int LAST_TICK = 45;
    private static final Check CHECK = new Check();
    private static final Twins TWINS = new Twins(CHECK);

    private static final int[] ABOVE = {-1, 0, 0, 1, 1, 2, 5, 2};
    private static final int[] KINDS = {0, 1, 2, 0, 0, 1, 0, 0};
    private static final int[] PICKUPS = {100, 120, 90, 100, 100, 80, 50, 100};
    private static final int[] TIMES = {1000, 900, 1000, 1, 1, 300, 1000, 2};
    private static final boolean[] HELD = {true, true, true, false, false, true, false, false};
    private static final int[] SHOTS = {0, 1, 1, 3, 1, 2, 0, 0};
    private static final int[] PATIENCES = {50, 50, 25, 5, 50, 50, 50, 3};
    private static final int[] LAGS = {1, 2, 8, 1, 0, 3, 4, 1};
    private static final int[] LOADS = {10, 20, 0, 30, 0, 40, 60, 0};
    private static final int[] FAULTS = {0, 0, 0, 500, 400, 0, 0, 600};
    private static final boolean[] JAMMED = {false, false, true, false, false, false, false, true};

    public static void main(String[] args) {
        allSortsOfStatesAreSeen();
        for (int tick = 0; tick <= LAST_TICK; tick++) {
            setAgain(tick);
            lookedAt(tick);
            lookedAtWithCutLines(tick);
        }
        CHECK.end();
    }

    /** One fault is gone after a while, so that a shot is reclaimed. */
    private static int faultOf(int r, int tick) {
        return r == 4 && tick >= 3 ? 0 : FAULTS[r];
    }

    private static FeederRelays plantAt(int tick) {
        FeederRelays x = new FeederRelays();
        for (int r = 0; r < RELAYS; r++) {
            x.relay(ABOVE[r]);
        }
        for (int r = 0; r < RELAYS; r++) {
            x.settings(r, KINDS[r], PICKUPS[r], TIMES[r]);
            x.options(r, HELD[r], SHOTS[r], PATIENCES[r]);
            x.load(r, LOADS[r]);
            x.fault(r, FAULTS[r]);
            x.jam(r, JAMMED[r]);
            x.line(r, LAGS[r]);
        }
        Check.runTo(x, Math.min(3, tick));
        x.fault(4, faultOf(4, tick));
        Check.runTo(x, tick);
        return x;
    }

    /** The test is worth something only if the plant has been through all of this. */
    private static void allSortsOfStatesAreSeen() {
        int bits = 0;
        for (int tick = 1; tick <= LAST_TICK; tick++) {
            FeederRelays x = plantAt(tick);
            for (int r = 0; r < RELAYS; r++) {
                bits |= x.state(r);
            }
        }
        CHECK.due("all that a relay can be", bits, 127);
        FeederRelays x = plantAt(LAST_TICK);
        int kinds = 0;
        for (int i = 0; i < x.events(); i++) {
            kinds |= 1 << x.event(i) % 8;
        }
        CHECK.due("all kinds of events", kinds, 2 + 4 + 8 + 16 + 32 + 64 + 128);
    }

    private static void setAgain(int tick) {
        FeederRelays now = plantAt(tick);
        List<Twins.Act> acts = new ArrayList<>();
        for (int i = 0; i < RELAYS; i++) {
            int r = i;
            acts.add(new Twins.Act("settings of " + r, x -> x.settings(r, KINDS[r], PICKUPS[r], TIMES[r])));
            acts.add(new Twins.Act("options of " + r, x -> x.options(r, HELD[r], SHOTS[r], PATIENCES[r])));
            acts.add(new Twins.Act("load of " + r, x -> x.load(r, LOADS[r])));
            acts.add(new Twins.Act("fault of " + r, x -> x.fault(r, faultOf(r, tick))));
            acts.add(new Twins.Act("jam of " + r, x -> x.jam(r, JAMMED[r])));
            acts.add(new Twins.Act("line of " + r, x -> x.line(r, LAGS[r])));
            boolean idle = (now.state(r) & (4 + 8)) == 0 && now.used(r) == 0;
            if (idle) {
                boolean closed = (now.state(r) & 1) == 1;
                acts.add(new Twins.Act("operate of " + r, x -> x.operate(r, closed)));
            }
        }
        TWINS.changeNothing(new Twins.Scene("at " + tick, RELAYS, () -> plantAt(tick), List.of(
            x -> x.run(1),
            x -> x.run(5),
            x -> x.run(13))), acts);
    }

    /** No look between in the twin, for what looks change would be changed in it too. */
    private static void lookedAt(int tick) {
        for (int later : new int[] {1, 3, 13}) {
            FeederRelays looked = plantAt(tick);
            List<String> first = Shown.of(looked, RELAYS);
            TWINS.same("looked at twice at " + tick, Shown.of(looked, RELAYS), first);
            looked.run(later);
            FeederRelays spared = plantAt(tick);
            spared.run(later);
            TWINS.same("looked at at " + tick + ", then " + later + " later",
                Shown.of(looked, RELAYS), Shown.of(spared, RELAYS));
        }
        FeederRelays looked = plantAt(tick);
        Shown.of(looked, RELAYS);
        CHECK.due("crash() at " + tick + " after looking", looked.crash(), plantAt(tick).crash());
    }

    /** What is known gets old then. */
    private static void lookedAtWithCutLines(int tick) {
        for (int later : new int[] {4, 8, 12}) {
            FeederRelays looked = plantAt(tick);
            FeederRelays spared = plantAt(tick);
            for (int r = 0; r < RELAYS; r++) {
                looked.line(r, 0);
                spared.line(r, 0);
            }
            looked.run(6);
            Shown.of(looked, RELAYS);
            looked.run(later);
            spared.run(6);
            spared.run(later);
            TWINS.same("cut at " + tick + ", looked at 6 later, then " + later + " later",
                Shown.of(looked, RELAYS), Shown.of(spared, RELAYS));
        }
    }
}
