import java.util.ArrayList;
import java.util.List;
import java.util.Random;

/** Promises 1 to 22 on many runs of chosen calls: every answer is that of the plain model. */
public final class ModelTest {
    private static final int RUNS = 3000;
    private static final int CALLS = 150;

    private final Random random;
    private final FeederRelays x = new FeederRelays();
    private final PlainModel model = new PlainModel();
    private final List<String> calls = new ArrayList<>();
    private final boolean stormy;
    private int relays;
    private boolean wrong;
    private int lossyCrashes;
    private int blockedStates;

    private ModelTest(long seed) {
        random = new Random(seed);
        stormy = seed % 3 == 0;
    }

    public static void main(String[] args) {
        int[] seen = new int[8];
        int full = 0;
        int crashes = 0;
        int blocked = 0;
        for (int seed = 0; seed < RUNS; seed++) {
            ModelTest test = new ModelTest(seed);
            test.wholeRun();
            if (test.wrong) {
                System.exit(1);
            }
            for (int i = 0; i < test.x.events(); i++) {
                seen[test.x.event(i) % 8]++;
            }
            full += test.x.events() == 200 ? 1 : 0;
            crashes += test.lossyCrashes;
            blocked += test.blockedStates;
        }
        // The runs are worth something only if all of this happens in them.
        for (int kind = 1; kind < 8; kind++) {
            require("events of kind " + kind, seen[kind]);
        }
        require("full records", full);
        require("crashes that took events", crashes);
        require("blocked relays", blocked);
        System.out.println(RUNS + " runs, all as the model");
    }

    private static void require(String what, int count) {
        System.out.println(what + ": " + count);
        if (count < 20) {
            System.out.println("too few to test anything");
            System.exit(1);
        }
    }

    private void wholeRun() {
        int wanted = 1 + random.nextInt(8);
        for (int i = 0; i < wanted; i++) {
            int above = i == 0 ? -1 : random.nextInt(i);
            same("relay(" + above + ")", x.relay(above), model.relay(above));
            relays++;
        }
        for (int i = 0; i < 3 * relays; i++) {
            set();
        }
        for (int i = 0; i < CALLS && !wrong; i++) {
            int choice = random.nextInt(10);
            if (choice < 5) {
                int ticks = random.nextInt(3) > 0 ? 1 + random.nextInt(3) : random.nextInt(23);
                same("run(" + ticks + ")", x.run(ticks), model.run(ticks));
            } else if (choice < 9) {
                set();
            } else {
                rare();
            }
            compareAll();
        }
    }

    private int oneOf(int... values) {
        return values[random.nextInt(values.length)];
    }

    private int someRelay() {
        return random.nextInt(40) == 0 ? oneOf(-1, relays, 8) : random.nextInt(relays);
    }

    private void set() {
        int r = someRelay();
        boolean flag = random.nextBoolean();
        switch (random.nextInt(7)) {
            case 0 -> {
                int kind = random.nextInt(30) == 0 ? oneOf(-1, 3) : random.nextInt(3);
                int pickup = oneOf(1, 50, 100, 150, 300, 1000, 5000, random.nextInt(5003));
                int time = oneOf(1, 1, 2, 3, 5, 10, 30, random.nextInt(1003));
                same("settings(" + r + ", " + kind + ", " + pickup + ", " + time + ")",
                    x.settings(r, kind, pickup, time), model.settings(r, kind, pickup, time));
            }
            case 1 -> {
                int shots = random.nextInt(30) == 0 ? oneOf(-1, 4) : random.nextInt(4);
                int patience = oneOf(1, 2, 3, 4, 10, random.nextInt(53));
                same("options(" + r + ", " + flag + ", " + shots + ", " + patience + ")",
                    x.options(r, flag, shots, patience), model.options(r, flag, shots, patience));
            }
            case 2 -> {
                int amount = oneOf(0, 40, 99, 100, 101, 2000, random.nextInt(2003) - 1);
                same("load(" + r + ", " + amount + ")", x.load(r, amount), model.load(r, amount));
            }
            case 3, 4 -> {
                int amount = oneOf(0, 0, 150, 500, 1000, 20000, random.nextInt(20003) - 1);
                same("fault(" + r + ", " + amount + ")", x.fault(r, amount), model.fault(r, amount));
            }
            case 5 -> {
                boolean on = random.nextInt(3) == 0;
                same("jam(" + r + ", " + on + ")", x.jam(r, on), model.jam(r, on));
            }
            default -> {
                int lag = random.nextInt(11) - 1;
                same("line(" + r + ", " + lag + ")", x.line(r, lag), model.line(r, lag));
            }
        }
    }

    private void rare() {
        int r = someRelay();
        if (stormy || random.nextInt(4) > 0) {
            for (int i = 0; i < (stormy ? relays : 1); i++) {
                int which = stormy ? i : r;
                boolean closed = stormy || random.nextInt(4) > 0;
                same("operate(" + which + ", " + closed + ")", x.operate(which, closed), model.operate(which, closed));
            }
        } else if (random.nextInt(3) > 0) {
            int before = x.events();
            same("crash()", x.crash(), model.crash());
            lossyCrashes += x.events() < before ? 1 : 0;
        } else {
            int above = random.nextInt(10) - 1;
            int got = x.relay(above);
            same("relay(" + above + ")", got, model.relay(above));
            relays += got >= 0 ? 1 : 0;
        }
    }

    private void same(String call, boolean got, boolean want) {
        same(call, got ? 1 : 0, want ? 1 : 0);
    }

    private void same(String call, long got, long want) {
        calls.add(call + " -> " + want);
        compare(call, got, want);
    }

    private void compare(String call, long got, long want) {
        if (got != want && !wrong) {
            wrong = true;
            calls.forEach(System.out::println);
            System.out.println(call + " answered " + got + ", due is " + want);
        }
    }

    private void compareAll() {
        compare("time()", x.time(), model.time());
        compare("events()", x.events(), model.events());
        for (int r = -1; r <= 8; r++) {
            compare("current(" + r + ")", x.current(r), model.current(r));
            compare("state(" + r + ")", x.state(r), model.state(r));
            compare("sum(" + r + ")", x.sum(r), model.sum(r));
            compare("used(" + r + ")", x.used(r), model.used(r));
            compare("changes(" + r + ")", x.changes(r), model.changes(r));
            compare("known(" + r + ")", x.known(r), model.known(r));
            compare("effective(" + r + ")", x.effective(r), model.effective(r));
            blockedStates += x.state(r) >= 64 ? 1 : 0;
        }
        for (int i = -1; i <= x.events(); i++) {
            compare("event(" + i + ")", x.event(i), model.event(i));
            compare("when(" + i + ")", x.when(i), model.when(i));
        }
    }
}
