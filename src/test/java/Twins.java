import java.util.ArrayList;
import java.util.List;
import java.util.function.Supplier;
import java.util.function.ToIntFunction;

/** Two objects that came to be by the same calls: what one of them is asked besides must not show in what both answer then. */
final class Twins {
    private static final String SOUND_END = "9;b2 3 4 5;";

    private Twins() { }

    /** The call is refused as is due, and changes nothing. */
    static void refused(Kit kit, String name, Supplier<IceSway> state, ToIntFunction<IceSway> call, int want) {
        IceSway asked = state.get();
        kit.due(name, call.applyAsInt(asked), want);
        alike(kit, name + " is refused and changes nothing", asked, state.get());
    }

    /** The call is taken, and changes nothing. */
    static void tried(Kit kit, String name, Supplier<IceSway> state, ToIntFunction<IceSway> call) {
        IceSway asked = state.get();
        kit.taken(name, call.applyAsInt(asked));
        alike(kit, name + " is tried and changes nothing", asked, state.get());
    }

    static void alike(Kit kit, String name, IceSway asked, IceSway spared) {
        kit.due(name + ": the fault's place", asked.fault(), spared.fault());
        alikeButForFault(kit, name, asked, spared);
    }

    /** Both are used up by this. */
    static void alikeButForFault(Kit kit, String name, IceSway asked, IceSway spared) {
        List<Integer> got = lifeOf(asked);
        List<Integer> want = lifeOf(spared);
        int shorter = Math.min(got.size(), want.size());
        int apart = got.size() == want.size() ? -1 : shorter;
        for (int i = shorter - 1; i >= 0; i--) {
            apart = got.get(i).equals(want.get(i)) ? apart : i;
        }
        kit.due(name + ": the first answer that differs", apart, -1);
    }

    /** All that can be seen of an object, and of its images and its text, which takes some 200 calls. */
    private static List<Integer> lifeOf(IceSway x) {
        List<Integer> answers = new ArrayList<>();
        look(x, answers);
        answers.add(x.thaw(7));
        answers.add(x.judge());
        for (int i = 0; i < 2; i++) {
            answers.add(x.goBack(i));
            look(x, answers);
        }
        answers.add(x.drift(2));
        for (int i = 0; i < SOUND_END.length(); i++) {
            answers.add(x.feed(SOUND_END.charAt(i)));
        }
        answers.add(x.cut());
        answers.add(x.fault());
        look(x, answers);
        return answers;
    }

    private static void look(IceSway x, List<Integer> answers) {
        for (int what = 0; what <= 17; what++) {
            answers.add(x.told(what));
        }
        for (int y = 0; y < x.told(0); y++) {
            for (int what = 0; what <= 2; what++) {
                answers.add(x.yard(y, what));
            }
            answers.add(x.kinds(y));
        }
        answers.add(x.judge());
        int seed = x.seed(1);
        answers.add(seed);
        x.seed(seed);
    }
}
