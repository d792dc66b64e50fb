import java.util.ArrayList;
import java.util.List;

/** What the calls that show the state answer, as lines to compare. */
final class Shown {
    // An object is good for 512 calls: only the latest events are looked at.
    private static final int LATEST = 9;

    private Shown() { }

    /** Of so many relays, and of the first number that is none. */
    static List<String> of(FeederRelays x, int relays) {
        List<String> lines = new ArrayList<>();
        lines.add("time() = " + x.time());
        for (int r = 0; r < relays; r++) {
            String of = "(" + r + ") = ";
            lines.add("current" + of + x.current(r));
            lines.add("state" + of + x.state(r));
            lines.add("sum" + of + x.sum(r));
            lines.add("used" + of + x.used(r));
            lines.add("changes" + of + x.changes(r));
            lines.add("known" + of + x.known(r));
            lines.add("effective" + of + x.effective(r));
        }
        lines.add("state(" + relays + ") = " + x.state(relays));
        int events = x.events();
        lines.add("events() = " + events);
        for (int i = Math.max(0, events - LATEST); i <= events; i++) {
            lines.add("event(" + i + ") = " + x.event(i));
            lines.add("when(" + i + ") = " + x.when(i));
        }
        return lines;
    }
}
