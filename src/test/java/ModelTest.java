import java.util.ArrayList;
import java.util.List;
import java.util.Random;

/** Promises 1 to 22 on many runs of chosen calls: every answer is that of the plain model. */
public final class ModelTest {
    private static final int RUNS = 10000;
    // An object is good for so many calls; the last of them look at all that it shows.
    private static final int MOST_CALLS = 512;
    private static final int LAST_LOOK = 100;

    private final Random random;
    private final FeederRelays x = new FeederRelays();
    private final PlainModel model = new PlainModel();
    private final List<String> calls = new ArrayList<>();
    private final boolean stormy;
    private int relays;
    private int made;
    private boolean wrong;
    private int lossyCrashes;
    private int fullCrashes;
    private int blockedStates;

    private ModelTest(long seed) {
        random = new Random(seed);
        stormy = seed % 5 == 0;
    }

    public static void main(String[] args) {
        int[] seen = new int[8];
        int full = 0;
        int crashes = 0;
        int fullCrashes = 0;
        int blocked = 0;
        for (int seed = 0; seed < RUNS; seed++) {
            ModelTest test = new ModelTest(seed);
            test.wholeRun();
            if (test.wrong) {
                System.exit(1);
            }
            for (int i = 0; i < test.model.events(); i++) {
                seen[test.model.event(i) % 8]++;
            }
            full += test.model.events() == 200 ? 1 : 0;
            crashes += test.lossyCrashes;
            fullCrashes += test.fullCrashes;
            blocked += test.blockedStates;
        }
        // The runs are worth something only if all of this happens in them.
        for (int kind = 1; kind < 8; kind++) {
            require("events of kind " + kind, seen[kind]);
        }
        require("full records", full);
        require("crashes that took events", crashes);
        require("crashes that took some of 200", fullCrashes);
        require("blocked relays", blocked);
        System.out.println(RUNS + " runs, all as the model");
    }

    private static void require(String what, int count) {
        System.out.println(what + ": " + count);
        if (count < 20) {
            System.out.println("too few to test anything");
            System.exit(1);
        }
    }

    private void wholeRun() {
        makeRelays();
        while (made < MOST_CALLS - LAST_LOOK && !wrong) {
            if (stormy) {
                storm();
            } else {
                oneCall();
            }
            blockedStates += model.state(0) >= 64 ? 1 : 0;
            compareOne();
            compareOne();
        }
        compareAll();
    }

    private void makeRelays() {
        int wanted = stormy ? 8 : 1 + random.nextInt(8);
        for (int i = 0; i < wanted; i++) {
            int above = i == 0 ? -1 : stormy ? 0 : random.nextInt(i);
            same("relay(" + above + ")", x.relay(above), model.relay(above));
            relays++;
        }
        for (int i = 0; i < 3 * relays && !stormy; i++) {
            set();
        }
        for (int r = 0; r < relays && stormy; r++) {
            int pickup = r == 0 ? 5000 : 50;
            same("settings(" + r + ", 0, " + pickup + ", 1)",
                x.settings(r, 0, pickup, 1), model.settings(r, 0, pickup, 1));
            same("fault(" + r + ", 400)", x.fault(r, 400), model.fault(r, 400));
        }
    }

    private void oneCall() {
        int choice = random.nextInt(10);
        if (choice < 5) {
            run(random.nextInt(3) > 0 ? 1 + random.nextInt(3) : random.nextInt(23));
        } else if (choice < 9) {
            set();
        } else {
            rare();
        }
    }

    /** All are closed by hand and trip again: so many events that the record gets full. */
    private void storm() {
        for (int r = 0; r < relays; r++) {
            operate(r, true);
        }
        run(3 + random.nextInt(6));
        if (random.nextInt(4) == 0) {
            set();
        }
        if (random.nextInt(5) == 0) {
            crash();
        }
    }

    private void run(int ticks) {
        same("run(" + ticks + ")", x.run(ticks), model.run(ticks));
    }

    private void operate(int r, boolean closed) {
        same("operate(" + r + ", " + closed + ")", x.operate(r, closed), model.operate(r, closed));
    }

    private void crash() {
        int before = model.events();
        same("crash()", x.crash(), model.crash());
        lossyCrashes += model.events() < before ? 1 : 0;
        fullCrashes += model.events() < before && before == 200 ? 1 : 0;
    }

    private int oneOf(int... values) {
        return values[random.nextInt(values.length)];
    }

    private int someRelay() {
        return random.nextInt(40) == 0 ? oneOf(-1, relays, 8) : random.nextInt(relays);
    }

    private void set() {
        int r = someRelay();
        boolean flag = random.nextBoolean();
        switch (random.nextInt(7)) {
            case 0 -> {
                int kind = random.nextInt(30) == 0 ? oneOf(-1, 3) : random.nextInt(3);
                int pickup = oneOf(1, 50, 100, 150, 300, 1000, 5000, random.nextInt(5003));
                int time = oneOf(1, 1, 2, 3, 5, 10, 30, random.nextInt(1003));
                same("settings(" + r + ", " + kind + ", " + pickup + ", " + time + ")",
                    x.settings(r, kind, pickup, time), model.settings(r, kind, pickup, time));
            }
            case 1 -> {
                int shots = random.nextInt(30) == 0 ? oneOf(-1, 4) : random.nextInt(4);
                int patience = oneOf(1, 2, 3, 4, 10, random.nextInt(53));
                same("options(" + r + ", " + flag + ", " + shots + ", " + patience + ")",
                    x.options(r, flag, shots, patience), model.options(r, flag, shots, patience));
            }
            case 2 -> {
                int amount = oneOf(0, 40, 99, 100, 101, 2000, random.nextInt(2003) - 1);
                same("load(" + r + ", " + amount + ")", x.load(r, amount), model.load(r, amount));
            }
            case 3, 4 -> {
                int amount = oneOf(0, 0, 150, 500, 1000, 20000, random.nextInt(20003) - 1);
                same("fault(" + r + ", " + amount + ")", x.fault(r, amount), model.fault(r, amount));
            }
            case 5 -> {
                boolean on = random.nextInt(3) == 0;
                same("jam(" + r + ", " + on + ")", x.jam(r, on), model.jam(r, on));
            }
            default -> {
                int lag = random.nextInt(11) - 1;
                same("line(" + r + ", " + lag + ")", x.line(r, lag), model.line(r, lag));
            }
        }
    }

    private void rare() {
        if (random.nextInt(4) > 0) {
            operate(someRelay(), random.nextInt(4) > 0);
        } else if (random.nextInt(3) > 0) {
            crash();
        } else {
            int above = random.nextInt(10) - 1;
            int number = model.relay(above);
            same("relay(" + above + ")", x.relay(above), number);
            relays += number >= 0 ? 1 : 0;
        }
    }

    private void same(String call, boolean got, boolean want) {
        same(call, got ? 1 : 0, want ? 1 : 0);
    }

    private void same(String call, long got, long want) {
        calls.add(call + " -> " + want);
        compare(call, got, want);
    }

    private void compare(String call, long got, long want) {
        made++;
        if (got != want && !wrong) {
            wrong = true;
            calls.forEach(System.out::println);
            System.out.println(call + " answered " + got + ", due is " + want);
        }
    }

    private void compareOne() {
        int r = someRelay();
        int i = random.nextInt(4) == 0 ? model.events() : model.events() - 1 - random.nextInt(4);
        switch (random.nextInt(11)) {
            case 0 -> compare("time()", x.time(), model.time());
            case 1 -> compare("events()", x.events(), model.events());
            case 2 -> compare("event(" + i + ")", x.event(i), model.event(i));
            case 3 -> compare("when(" + i + ")", x.when(i), model.when(i));
            default -> compareOf(r, random.nextInt(7));
        }
    }

    private void compareOf(int r, int which) {
        String of = "(" + r + ")";
        switch (which) {
            case 0 -> compare("current" + of, x.current(r), model.current(r));
            case 1 -> compare("state" + of, x.state(r), model.state(r));
            case 2 -> compare("sum" + of, x.sum(r), model.sum(r));
            case 3 -> compare("used" + of, x.used(r), model.used(r));
            case 4 -> compare("changes" + of, x.changes(r), model.changes(r));
            case 5 -> compare("known" + of, x.known(r), model.known(r));
            default -> compare("effective" + of, x.effective(r), model.effective(r));
        }
    }

    private void compareAll() {
        compare("time()", x.time(), model.time());
        compare("events()", x.events(), model.events());
        for (int r = -1; r <= 8; r++) {
            for (int which = 0; which < 7; which++) {
                compareOf(r, which);
            }
        }
        for (int i = model.events(); i >= -1 && made <= MOST_CALLS - 2; i--) {
            compare("event(" + i + ")", x.event(i), model.event(i));
            compare("when(" + i + ")", x.when(i), model.when(i));
        }
    }
}
