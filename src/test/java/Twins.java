import java.util.ArrayList;
import java.util.List;
import java.util.function.Consumer;
import java.util.function.Predicate;
import java.util.function.Supplier;

/** The same scene twice, once with a call and once without it: all that is shown then and later must be the same. */
final class Twins {
    /** A call, and whether its answer is the one that is due. */
    record Act(String text, Predicate<FeederRelays> answersAsDue) { }

    /** A state to call in, and what is done after the call to bring out what does not show at once. */
    record Scene(String name, int relays, Supplier<FeederRelays> maker, List<Consumer<FeederRelays>> later) { }

    private final Check check;

    Twins(Check check) {
        this.check = check;
    }

    /** Each of the calls by itself changes nothing. */
    void changeNothing(Scene scene, List<Act> acts) {
        List<List<String>> without = story(scene, new Act("nothing", x -> true));
        for (Act act : acts) {
            List<List<String>> with = story(scene, act);
            for (int i = 0; i < without.size(); i++) {
                String when = i == 0 ? ", right after" : ", at look " + i + " later";
                same(scene.name() + ", after " + act.text() + when, with.get(i), without.get(i));
            }
        }
    }

    /** What is shown after the call and after each step then. */
    private List<List<String>> story(Scene scene, Act act) {
        FeederRelays x = scene.maker().get();
        int shown = Math.min(8, scene.relays() + 2);
        List<String> before = Shown.of(x, shown);
        check.yes(scene.name() + ": the answer of " + act.text(), act.answersAsDue().test(x));
        List<List<String>> looks = new ArrayList<>();
        looks.add(Shown.of(x, shown));
        same(scene.name() + ", before and after " + act.text(), looks.get(0), before);
        for (Consumer<FeederRelays> step : scene.later()) {
            step.accept(x);
            looks.add(Shown.of(x, shown));
        }
        return looks;
    }

    void same(String when, List<String> got, List<String> want) {
        if (got.equals(want)) {
            check.yes(when, true);
            return;
        }
        check.yes(when + ": as many answers", got.size() == want.size());
        for (int i = 0; i < Math.min(got.size(), want.size()); i++) {
            check.yes(when + ": " + got.get(i) + ", not as without: " + want.get(i), got.get(i).equals(want.get(i)));
        }
    }
}
