/** No relays yet, one, and eight: "RELAYS have the numbers 0 .. 7 in the order of making." */
public final class EightTest {
    private static final Check CHECK = new Check();

    public static void main(String[] args) {
        onlyTheTimeGoesOnWithoutRelays();
        eightInTheOrderOfMaking();
        everyEarlierRelayCanBeAbove();
        relaysOnlyAtTimeZero();
        fedUpToRelayZero();
        onlyItsOwnAndThoseBelow();
        greatestCurrentOfAll();
        failingFromTheLastUpToTheSource();
        everyoneBelowHoldsBack();
        knownOfTheLast();
        oneOfEightIsSet();
        CHECK.end();
    }

    // "(Without relays only the time goes on.)"
    private static void onlyTheTimeGoesOnWithoutRelays() {
        FeederRelays x = new FeederRelays();
        CHECK.due("time() of a new object", x.time(), 0);
        CHECK.due("run(1)", x.run(1), 1);
        CHECK.due("run(20)", x.run(20), 21);
        CHECK.due("time()", x.time(), 21);
        CHECK.events("without relays", x);
        CHECK.due("crash()", x.crash(), 0);
        CHECK.due("time() after the crash", x.time(), 21);
        for (int r = -1; r <= 8; r++) {
            CHECK.due("state(" + r + ")", x.state(r), -1);
            CHECK.due("current(" + r + ")", x.current(r), -1);
        }
    }

    private static void eightInTheOrderOfMaking() {
        FeederRelays x = new FeederRelays();
        for (int r = 0; r < 8; r++) {
            CHECK.due("state(" + r + ") before it is made", x.state(r), -1);
            CHECK.due("relay " + r, x.relay(r == 0 ? -1 : 0), r);
            CHECK.due("state(" + r + ") when it is made", x.state(r), 1);
        }
        for (int above = -1; above <= 8; above++) {
            CHECK.due("a ninth below " + above, x.relay(above), -1);
            CHECK.due("state(8) then", x.state(8), -1);
        }
        CHECK.due("run(1) of eight", x.run(1), 1);
    }

    // "every other one has an earlier relay ABOVE it": the first and the last one, not itself nor a later one
    private static void everyEarlierRelayCanBeAbove() {
        for (int relays = 1; relays <= 7; relays++) {
            CHECK.due("below the first of " + relays, Check.chain(relays).relay(0), relays);
            CHECK.due("below the last of " + relays, Check.chain(relays).relay(relays - 1), relays);
            CHECK.due("below itself, after " + relays, Check.chain(relays).relay(relays), -1);
            CHECK.due("below a later one, after " + relays, Check.chain(relays).relay(relays + 1), -1);
            CHECK.due("below none, after " + relays, Check.chain(relays).relay(-1), -1);
        }
    }

    // "the time is not 0"
    private static void relaysOnlyAtTimeZero() {
        FeederRelays x = Check.chain(7);
        CHECK.due("run(0) refused", x.run(0), -1);
        CHECK.due("relay 7 at time 0", x.relay(6), 7);
        FeederRelays y = Check.chain(7);
        y.run(1);
        CHECK.due("relay 7 at time 1", y.relay(6), -1);
        CHECK.due("state(7) at time 1", y.state(7), -1);
        y.crash();
        CHECK.due("relay 7 at time 1, after a crash", y.relay(6), -1);
    }

    // "if its breaker and those of all relays above it, one above the other up to relay 0, are closed"
    private static void fedUpToRelayZero() {
        for (int open = 0; open < 8; open++) {
            FeederRelays x = Check.chain(8);
            for (int r = 0; r < 8; r++) {
                x.load(r, 1 << r);
            }
            CHECK.due("current(0), all closed", x.current(0), 255);
            x.operate(open, false);
            for (int r = 0; r < 8; r++) {
                int fedSections = Math.max(0, (1 << open) - (1 << r));
                CHECK.due("current(" + r + ") with " + open + " open", x.current(r), fedSections);
            }
            x.operate(open, true);
            CHECK.due("current(0), all closed again", x.current(0), 255);
        }
    }

    private static void onlyItsOwnAndThoseBelow() {
        FeederRelays x = Check.star(8);
        for (int r = 0; r < 8; r++) {
            x.load(r, 1 << r);
        }
        for (int r = 1; r < 8; r++) {
            CHECK.due("current(" + r + ")", x.current(r), 1 << r);
            x.operate(r, false);
            CHECK.due("current(" + r + ") when open", x.current(r), 0);
            CHECK.due("current(0) with " + r + " open", x.current(0), 255 - (1 << r));
            x.operate(r, true);
        }
    }

    private static void greatestCurrentOfAll() {
        for (FeederRelays x : new FeederRelays[] {Check.chain(8), Check.star(8)}) {
            for (int r = 0; r < 8; r++) {
                x.load(r, 2000);
                x.fault(r, 20000);
                x.settings(r, 2, 5000, 1000);
                x.options(r, true, 0, 50);
            }
            CHECK.due("current(0)", x.current(0), 176000);
            x.run(1);
            CHECK.due("effective(0) at 1", x.effective(0), 88000);
            CHECK.due("sum(0) at 1", x.sum(0), 88000L * 88000 - 5000L * 5000);
            x.run(3);
            CHECK.due("effective(0) at 4", x.effective(0), 176000);
        }
    }

    private static void failingFromTheLastUpToTheSource() {
        FeederRelays x = Check.chain(8);
        for (int r = 0; r < 8; r++) {
            x.settings(r, 0, 5000, r == 7 ? 1 : 1000);
            x.options(r, false, 3, 1);
            x.jam(r, true);
        }
        x.fault(7, 20000);
        x.run(20);
        CHECK.events("one after the other", x,
            1, 7, 1, 6, 7, 2, 7, 6, 2, 6, 6, 3, 7, 5, 3, 6, 5, 4, 7, 4, 4, 6, 4, 5, 7, 3, 5,
            6, 3, 6, 7, 2, 6, 6, 2, 7, 7, 1, 7, 6, 1, 8, 7, 0, 8, 6, 0, 9);
        for (int r = 0; r < 8; r++) {
            CHECK.due("state(" + r + ")", x.state(r), 1 + 2 + 4 + 32);
        }
    }

    private static void everyoneBelowHoldsBack() {
        FeederRelays x = Check.chain(8);
        for (int r = 0; r < 8; r++) {
            x.settings(r, 0, 100, 2);
            x.options(r, true, 0, 50);
        }
        x.fault(7, 1000);
        x.run(2);
        for (int r = 0; r < 7; r++) {
            CHECK.due("held back " + r, x.state(r), 1 + 2 + 64);
        }
        CHECK.due("the last one is held back by none", x.state(7), 1 + 2 + 4);
        CHECK.events("only the last one trips", x, 1, 7, 2);
    }

    // "-1 when there is no relay r or none above it"
    private static void knownOfTheLast() {
        FeederRelays x = Check.chain(8);
        x.fault(7, 1000);
        x.run(1);
        CHECK.due("known(0)", x.known(0), -1);
        CHECK.due("known(8)", x.known(8), -1);
        CHECK.due("known(-1)", x.known(-1), -1);
        CHECK.due("known(1) with the message under way", x.known(1), 0);
        CHECK.due("known(7) with the message under way", x.known(7), 0);
        x.run(1);
        CHECK.due("known(1)", x.known(1), 3);
        CHECK.due("known(7)", x.known(7), 3);
    }

    /** What is set for one relay is not set for another. */
    private static void oneOfEightIsSet() {
        for (int one = 0; one < 8; one++) {
            FeederRelays x = Check.star(8);
            x.jam(one, true);
            x.load(one, 8);
            x.settings(one, 0, 1, 1);
            x.run(1);
            for (int r = 1; r < 8; r++) {
                CHECK.due("state(" + r + ") with " + one + " set", x.state(r), r == one ? 1 + 2 + 4 + 32 : 1);
                CHECK.due("current(" + r + ") with " + one + " set", x.current(r), r == one ? 8 : 0);
            }
            CHECK.events("with " + one + " set", x, 1, one, 1);
        }
    }
}
