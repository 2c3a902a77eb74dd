import java.util.ArrayList;
import java.util.List;
import java.util.function.Consumer;
import java.util.function.Function;

/** All that can be asked of an object after a run of calls. */
final class Snapshot {
    private static final int CALLS_OF_AN_OBJECT = 512;
    private static final int LONGEST_RUN = 112;

    private Snapshot() {
    }

    /** Makes the run anew on fresh objects, so that no object gets more calls than the document tells of. */
    static List<String> after(Consumer<PhraseCatalogue> run) {
        List<Function<PhraseCatalogue, Object>> questions = questions();
        List<String> answers = new ArrayList<>();
        PhraseCatalogue c = null;
        for (int i = 0; i < questions.size(); i++) {
            if (i % (CALLS_OF_AN_OBJECT - LONGEST_RUN) == 0) {
                c = new PhraseCatalogue();
                run.accept(c);
            }
            PhraseCatalogue asked = c;
            Function<PhraseCatalogue, Object> question = questions.get(i);
            answers.add(i + ": " + Check.outcome(() -> question.apply(asked)));
        }
        answers.addAll(draftAfter(run));
        return answers;
    }

    /** The signs of the draft can only be seen when it is set. */
    private static List<String> draftAfter(Consumer<PhraseCatalogue> run) {
        PhraseCatalogue c = new PhraseCatalogue();
        run.accept(c);
        List<String> signs = new ArrayList<>();
        int length = c.draft();
        if (length > 0) {
            c.set(9, 0, 2, 0, true);
            for (int i = 0; i < length; i++) {
                signs.add("draft " + i + ": " + c.toldSign(9, 0, 0, 0, i));
            }
        }
        return signs;
    }

    private static List<Function<PhraseCatalogue, Object>> questions() {
        List<Function<PhraseCatalogue, Object>> all = new ArrayList<>();
        all.add(c -> c.draft());
        all.add(c -> c.pairs());
        for (int language = 0; language < 6; language++) {
            int l = language;
            all.add(c -> c.missing(l));
            for (int number : new int[] {0, 1, 2, 3, 4, 99, 100, 101}) {
                all.add(c -> c.kindOf(l, number));
            }
            for (int key : new int[] {0, 1, 9}) {
                all.add(c -> c.version(key));
                all.add(c -> c.forms(key, l));
                all.add(c -> c.staleBy(key, l));
                addOfForms(all, key, l);
            }
        }
        return all;
    }

    private static void addOfForms(List<Function<PhraseCatalogue, Object>> all, int key, int language) {
        for (int kind = 0; kind < 3; kind++) {
            for (int gender = 0; gender < 3; gender++) {
                int k = kind;
                int g = gender;
                int number = new int[] {1, 3, 50}[kind];
                all.add(c -> c.fits(key, language, k, g));
                all.add(c -> c.toldBy(key, language, number, g));
                all.add(c -> c.toldByLooking(key, language, number, g));
                all.add(c -> c.toldForm(key, language, number, g));
                all.add(c -> c.toldSign(key, language, number, g, 0));
                all.add(c -> c.nearDistance(key, language, k, g));
                all.add(c -> c.nearSign(key, language, k, g, 0));
            }
        }
    }
}
