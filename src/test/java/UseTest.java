/** The example of README.md, call by call: it does what README.md says. */
public final class UseTest {
    public static void main(String[] args) {
        Check check = new Check();
        FeederRelays x = new FeederRelays();
        int source = x.relay(-1);
        int feeder = x.relay(source);
        check.due("source", source, 0);
        check.due("feeder", feeder, 1);
        check.yes("settings", x.settings(feeder, 1, 300, 4));
        check.yes("options of the source", x.options(source, true, 0, 10));
        check.yes("options of the feeder", x.options(feeder, false, 2, 10));
        check.yes("fault", x.fault(feeder, 900));
        check.due("run(20)", x.run(20), 20);
        check.events("as README.md prints", x, 1, 1, 4, 2, 1, 6, 3, 1, 11, 1, 1, 14, 2, 1, 16);
        check.due("the feeder is waiting", x.state(feeder), 8);
        check.due("one shot used", x.used(feeder), 1);
        check.yes("closed by hand", x.operate(feeder, true));
        check.due("closed, not waiting", x.state(feeder), 1);
        check.due("no shot used", x.used(feeder), 0);
        check.due("all events were stored", x.crash(), 0);
        check.end();
    }
}
