import java.util.ArrayList;
import java.util.List;
import java.util.function.Consumer;
import java.util.function.Function;

/** All that can be asked of an object after a run of calls. */
final class Snapshot {
    private static final int CALLS_OF_AN_OBJECT = 512;
    private static final int LONGEST_RUN = 112;
    private static final List<Function<PhraseCatalogue, Object>> QUESTIONS = questions();

    private Snapshot() {
    }

    /** Makes the run anew on fresh objects, so that no object gets more calls than the document tells of. */
    static List<String> after(Consumer<PhraseCatalogue> run) {
        List<String> answers = new ArrayList<>();
        PhraseCatalogue c = null;
        for (int i = 0; i < QUESTIONS.size(); i++) {
            if (i % (CALLS_OF_AN_OBJECT - LONGEST_RUN) == 0) {
                c = new PhraseCatalogue();
                run.accept(c);
            }
            PhraseCatalogue asked = c;
            Function<PhraseCatalogue, Object> question = QUESTIONS.get(i);
            answers.add("question " + i + ": " + Check.outcome(() -> question.apply(asked)));
        }
        answers.addAll(fallbacksAfter(run));
        answers.addAll(draftAfter(run));
        return answers;
    }

    /** A fallback is only answered when it is set anew; set to the source, none can go round. */
    private static List<String> fallbacksAfter(Consumer<PhraseCatalogue> run) {
        PhraseCatalogue c = new PhraseCatalogue();
        run.accept(c);
        List<String> before = new ArrayList<>();
        for (int language = 1; language < 6; language++) {
            before.add("fallback of " + language + ": " + c.setFallback(language, 0));
        }
        return before;
    }

    /** The signs of the draft can only be seen when it is set. */
    private static List<String> draftAfter(Consumer<PhraseCatalogue> run) {
        PhraseCatalogue c = new PhraseCatalogue();
        run.accept(c);
        List<String> signs = new ArrayList<>();
        int length = c.draft();
        if (length > 0) {
            c.set(8, 0, 2, 0, true);
            for (int i = 0; i < length; i++) {
                signs.add("draft " + i + ": " + c.toldSign(8, 0, 0, 0, i));
            }
        }
        return signs;
    }

    private static List<Function<PhraseCatalogue, Object>> questions() {
        List<Function<PhraseCatalogue, Object>> all = new ArrayList<>();
        all.add(c -> c.draft());
        all.add(c -> c.pairs());
        for (int key = 0; key < 10; key++) {
            int k = key;
            all.add(c -> c.version(k));
        }
        for (int language = 0; language < 6; language++) {
            int l = language;
            all.add(c -> c.missing(l));
            for (int number : new int[] {0, 1, 2, 3, 4, 5, 49, 50, 51, 99, 100, 101}) {
                all.add(c -> c.kindOf(l, number));
            }
            for (int key = 0; key < 10; key++) {
                int k = key;
                all.add(c -> c.forms(k, l));
                all.add(c -> c.staleBy(k, l));
            }
            for (int key : new int[] {0, 1, 9}) {
                addOfForms(all, key, l);
            }
        }
        return all;
    }

    private static void addOfForms(List<Function<PhraseCatalogue, Object>> all, int key, int language) {
        for (int kind = 0; kind < 3; kind++) {
            for (int gender = 0; gender < 3; gender++) {
                int k = kind;
                int g = gender;
                int number = new int[] {1, 3, 50}[kind];
                all.add(c -> c.fits(key, language, k, g));
                all.add(c -> c.toldBy(key, language, number, g));
                all.add(c -> c.toldByLooking(key, language, number, g));
                all.add(c -> c.toldForm(key, language, number, g));
                all.add(c -> c.nearDistance(key, language, k, g));
                for (int place : new int[] {0, 1, 7}) {
                    all.add(c -> c.toldSign(key, language, number, g, place));
                    all.add(c -> c.nearSign(key, language, k, g, place));
                }
            }
        }
    }
}
