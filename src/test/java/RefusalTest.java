import java.util.ArrayList;
import java.util.List;
import java.util.function.Predicate;

/**
 * "A call that is refused (-1 or false) changes nothing.": every refused call in several scenes.
 * All that the object shows stays, and so does all that it shows later, beside a twin without that call.
 */
public final class RefusalTest {
    private static final int LEAST = Integer.MIN_VALUE;
    private static final int MOST = Integer.MAX_VALUE;
    private static final Check CHECK = new Check();

    public static void main(String[] args) {
        atFirst();
        noRelaysLater();
        threeAtFirst();
        eightAtFirst();
        allPickedUp();
        allWithOrders();
        waitingAndUnstored();
        twoHundredRecorded();
        CHECK.end();
    }

    private static void atFirst() {
        tryAll(new Twins.Scene("no relays, time 0", 0, FeederRelays::new, List.of(
            x -> {
                x.relay(-1);
                x.relay(0);
                x.options(0, true, 0, 10);
                x.load(1, 150);
                x.run(6);
            },
            x -> x.run(20))), true);
    }

    private static void noRelaysLater() {
        tryAll(new Twins.Scene("no relays, time 20", 0, () -> {
            FeederRelays x = new FeederRelays();
            x.run(20);
            return x;
        }, List.of(x -> x.run(1))), false);
    }

    private static void threeAtFirst() {
        tryAll(new Twins.Scene("three relays, time 0", 3, () -> {
            FeederRelays x = Check.chain(3);
            for (int r = 0; r < 3; r++) {
                x.settings(r, 1, 150, 30);
                x.load(r, 60);
                x.line(r, 2);
            }
            return x;
        }, List.of(
            x -> {
                x.relay(2);
                x.fault(3, 300);
                x.run(5);
            },
            x -> x.run(20))), true);
    }

    private static void eightAtFirst() {
        tryAll(new Twins.Scene("eight relays, time 0", 8, () -> {
            FeederRelays x = Check.chain(8);
            for (int r = 0; r < 8; r++) {
                x.load(r, 90);
            }
            return x;
        }, List.of(
            x -> x.run(1),
            x -> x.run(7),
            x -> x.run(15))), true);
    }

    /** Settings, being held back and lines come out by sums, blocks and messages. */
    private static void allPickedUp() {
        tryAll(new Twins.Scene("eight in a chain, all picked up", 8, () -> {
            FeederRelays x = Check.chain(8);
            for (int r = 0; r < 8; r++) {
                x.settings(r, r % 2, 100, 1000);
                x.options(r, r % 3 == 0, 0, 50);
                x.line(r, 3);
            }
            x.fault(7, 900);
            x.run(6);
            return x;
        }, List.of(
            x -> x.run(1),
            x -> {
                x.fault(7, 0);
                x.run(7);
            },
            x -> x.run(8))), false);
    }

    /** Shots come out by waiting or locking, patience by failing. */
    private static void allWithOrders() {
        tryAll(new Twins.Scene("eight with orders, the half of them jammed", 8, () -> {
            FeederRelays x = Check.star(8);
            for (int r = 0; r < 8; r++) {
                x.settings(r, 0, 100, 1);
                x.options(r, false, 1, 5);
                x.fault(r, 500);
                x.jam(r, r % 2 == 0);
            }
            x.run(1);
            return x;
        }, List.of(
            x -> x.run(2),
            x -> x.run(2),
            x -> {
                x.run(1);
                x.jam(0, false);
                x.jam(2, false);
                x.jam(4, false);
                x.jam(6, false);
                x.run(1);
            })), false);
    }

    private static void waitingAndUnstored() {
        String name = "eight, some waiting, locked or open by hand, messages under way, events not stored";
        tryAll(new Twins.Scene(name, 8, RefusalTest::middle, List.of(
            x -> x.run(6),
            x -> x.run(6))), false);
        tryAll(new Twins.Scene(name + ", then a crash", 8, RefusalTest::middle, List.of(
            x -> CHECK.due("crash()", x.crash(), 8),
            x -> x.run(6))), false);
    }

    private static FeederRelays middle() {
        FeederRelays x = Scenes.manyAtOnce(7);
        x.options(1, false, 2, 10);
        x.options(2, false, 1, 10);
        x.line(3, 8);
        x.operate(4, false);
        x.jam(5, true);
        x.run(3);
        return x;
    }

    private static void twoHundredRecorded() {
        tryAll(new Twins.Scene("eight and 200 events", 8, () -> {
            FeederRelays x = Scenes.nineRounds();
            x.run(3);
            return x;
        }, List.of(x -> CHECK.due("crash()", x.crash(), 5))), false);
    }

    private static void tryAll(Twins.Scene scene, boolean isStart) {
        List<Twins.Act> refusals = new ArrayList<>();
        ofStrangers(refusals, scene.relays());
        for (int r = 0; r < scene.relays(); r++) {
            ofSettings(refusals, r);
            ofOptions(refusals, r);
            ofAmounts(refusals, r);
        }
        ofNewRelays(refusals, scene.relays(), isStart);
        ofTicks(refusals);
        ofEvents(refusals, scene.maker().get().events());
        new Twins(CHECK).changeNothing(scene, refusals);
    }

    private static void add(List<Twins.Act> refusals, String text, Predicate<FeederRelays> refused) {
        refusals.add(new Twins.Act(text, refused));
    }

    private static void ofStrangers(List<Twins.Act> refusals, int relays) {
        for (int r : new int[] {LEAST, -1, relays, relays + 1, 8, MOST}) {
            add(refusals, "settings(" + r + ", 2, 1, 1)", x -> !x.settings(r, 2, 1, 1));
            add(refusals, "options(" + r + ", true, 3, 1)", x -> !x.options(r, true, 3, 1));
            add(refusals, "load(" + r + ", 2000)", x -> !x.load(r, 2000));
            add(refusals, "fault(" + r + ", 20000)", x -> !x.fault(r, 20000));
            add(refusals, "jam(" + r + ", true)", x -> !x.jam(r, true));
            add(refusals, "jam(" + r + ", false)", x -> !x.jam(r, false));
            add(refusals, "line(" + r + ", 0)", x -> !x.line(r, 0));
            add(refusals, "line(" + r + ", 8)", x -> !x.line(r, 8));
            add(refusals, "operate(" + r + ", true)", x -> !x.operate(r, true));
            add(refusals, "operate(" + r + ", false)", x -> !x.operate(r, false));
            add(refusals, "current(" + r + ")", x -> x.current(r) == -1);
            add(refusals, "state(" + r + ")", x -> x.state(r) == -1);
            add(refusals, "sum(" + r + ")", x -> x.sum(r) == -1);
            add(refusals, "used(" + r + ")", x -> x.used(r) == -1);
            add(refusals, "changes(" + r + ")", x -> x.changes(r) == -1);
            add(refusals, "known(" + r + ")", x -> x.known(r) == -1);
            add(refusals, "effective(" + r + ")", x -> x.effective(r) == -1);
        }
        add(refusals, "known(0)", x -> x.known(0) == -1);
    }

    // What is beside the wrong argument is never what is set already.
    private static void ofSettings(List<Twins.Act> refusals, int r) {
        for (int kind : new int[] {LEAST, -1, 3, MOST}) {
            add(refusals, "settings(" + r + ", " + kind + ", 1, 1)", x -> !x.settings(r, kind, 1, 1));
        }
        for (int pickup : new int[] {LEAST, -1, 0, 5001, MOST}) {
            add(refusals, "settings(" + r + ", 2, " + pickup + ", 1)", x -> !x.settings(r, 2, pickup, 1));
        }
        for (int time : new int[] {LEAST, -1, 0, 1001, MOST}) {
            add(refusals, "settings(" + r + ", 2, 1, " + time + ")", x -> !x.settings(r, 2, 1, time));
        }
    }

    private static void ofOptions(List<Twins.Act> refusals, int r) {
        for (boolean held : new boolean[] {false, true}) {
            for (int shots : new int[] {LEAST, -1, 4, MOST}) {
                add(refusals, "options(" + r + ", " + held + ", " + shots + ", 1)", x -> !x.options(r, held, shots, 1));
            }
            for (int patience : new int[] {LEAST, -1, 0, 51, MOST}) {
                add(refusals, "options(" + r + ", " + held + ", 0, " + patience + ")",
                    x -> !x.options(r, held, 0, patience));
            }
        }
    }

    private static void ofAmounts(List<Twins.Act> refusals, int r) {
        for (int amount : new int[] {LEAST, -1, 2001, MOST}) {
            add(refusals, "load(" + r + ", " + amount + ")", x -> !x.load(r, amount));
        }
        for (int amount : new int[] {LEAST, -1, 20001, MOST}) {
            add(refusals, "fault(" + r + ", " + amount + ")", x -> !x.fault(r, amount));
        }
        for (int lag : new int[] {LEAST, -1, 9, MOST}) {
            add(refusals, "line(" + r + ", " + lag + ")", x -> !x.line(r, lag));
        }
    }

    private static void ofNewRelays(List<Twins.Act> refusals, int relays, boolean isStart) {
        for (int above : new int[] {LEAST, -2, -1, 0, 1, 2, 3, 7, 8, 9, MOST}) {
            boolean fits = relays == 0 ? above == -1 : above >= 0 && above < relays;
            if (!isStart || relays == 8 || !fits) {
                add(refusals, "relay(" + above + ")", x -> x.relay(above) == -1);
            }
        }
    }

    private static void ofTicks(List<Twins.Act> refusals) {
        for (int ticks : new int[] {LEAST, -20, -1, 0, 21, MOST}) {
            add(refusals, "run(" + ticks + ")", x -> x.run(ticks) == -1);
        }
    }

    private static void ofEvents(List<Twins.Act> refusals, int events) {
        for (int i : new int[] {LEAST, -1, events, 200, MOST}) {
            add(refusals, "event(" + i + ")", x -> x.event(i) == -1);
            add(refusals, "when(" + i + ")", x -> x.when(i) == -1);
        }
    }
}
