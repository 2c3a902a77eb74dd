import java.util.ArrayList;
import java.util.List;
import java.util.Set;
import java.util.TreeSet;

/** Each promise at the 512th call of an object: what the model answers, and each kind of answer at least once. */
public final class WholeUsesTest {
    private static final int USES = 70;
    private static final int CALLS_BEFORE = 511;
    private static final int LAST_CALLS = 15;
    private static final int FAR_LAST_ARGUMENTS = 150;
    private static final int FIRST_METHOD = 2;
    private static final int LAST_METHOD = 20;
    private static final String INDEX = "throws java.lang.IndexOutOfBoundsException";
    private static final String ARGUMENT = "throws java.lang.IllegalArgumentException";
    private static final String STATE = "throws java.lang.IllegalStateException";

    private final Check check = new Check();
    private final List<Set<String>> answers = new ArrayList<>();

    private WholeUsesTest() {
        for (int promise = 0; promise <= LAST_METHOD; promise++) {
            answers.add(new TreeSet<>());
        }
    }

    public static void main(String[] args) {
        WholeUsesTest test = new WholeUsesTest();
        for (int use = 0; use < USES; use++) {
            test.afterAllKindsOfCalls(use);
            test.afterQuestionsAlone(use);
        }
        for (int promise = FIRST_METHOD; promise <= LAST_METHOD; promise++) {
            test.allKindsOfAnswersCame(promise);
        }
        test.check.end();
    }

    private void afterAllKindsOfCalls(int use) {
        Steps steps = new Steps(use);
        List<Step> before = new ArrayList<>();
        Model m = new Model();
        for (int call = 0; call < CALLS_BEFORE; call++) {
            before.add(steps.any());
            before.get(call).dueFrom(m);
        }
        steps.farInAThousand(FAR_LAST_ARGUMENTS);
        for (int promise = FIRST_METHOD; promise <= LAST_METHOD; promise++) {
            check.heading("promise " + promise + ", at the end of the use " + use + ": ");
            for (int i = 0; i < LAST_CALLS; i++) {
                Step last = steps.ofPromise(promise);
                String due = last.dueFrom(m.copy());
                check.compare(last.what(), due, last.answerOf(used(before)));
                answers.get(promise).add(due);
            }
        }
    }

    private static PhraseCatalogue used(List<Step> steps) {
        PhraseCatalogue c = new PhraseCatalogue();
        for (Step step : steps) {
            step.answerOf(c);
        }
        return c;
    }

    /** Promise 1: an object that has only been asked is as new, whatever others have been used for before. */
    private void afterQuestionsAlone(int use) {
        Steps steps = new Steps(use);
        Model m = new Model();
        PhraseCatalogue c = new PhraseCatalogue();
        check.heading("promise 1, asked alone in the use " + use + ": ");
        for (int call = 0; call < CALLS_BEFORE; call++) {
            Step step = steps.question();
            check.compare(step.what(), step.dueFrom(m), step.answerOf(c));
        }
        int language = 1 + use % 5;
        check.due("the fallback of " + language, 0, () -> c.setFallback(language, 0));
    }

    private void allKindsOfAnswersCame(int promise) {
        check.heading("promise " + promise + ", all answers of the 512th calls: ");
        for (String kind : kindsOf(promise)) {
            check.compare(kind, "came", answers.get(promise).contains(kind) ? "came" : "never came");
        }
    }

    private static List<String> kindsOf(int promise) {
        return switch (promise) {
            case 2 -> List.of("0", "1", "2", "3", "4", "5", INDEX, ARGUMENT);
            case 3 -> List.of("null", INDEX, ARGUMENT);
            case 4 -> List.of("1", "2", "7", "8", ARGUMENT, STATE);
            case 5 -> List.of("0", "1", INDEX, STATE);
            case 6 -> List.of("1", "2", "3", "8", INDEX, STATE);
            case 7 -> List.of("0", "1", "2", "7", "8");
            case 8 -> List.of("0", "1", "2", INDEX, ARGUMENT);
            case 9 -> List.of("0", "1", "7", "9", INDEX);
            case 10, 12 -> List.of("0", "1", "2", "8", INDEX);
            case 11 -> List.of("-1", "0", "1", "20", INDEX);
            case 13 -> List.of("false", "true", INDEX);
            case 14, 15 -> List.of("-1", "0", "1", "2", "3", "4", "5", INDEX, ARGUMENT);
            case 16 -> List.of("-1", "0", "1", "2", "3", "4", "5", "6", "7", "8", INDEX, ARGUMENT);
            case 17 -> List.of("1", "2", "3", "101", "104", INDEX, ARGUMENT);
            case 18 -> List.of("0", "2", "18", "20");
            case 19 -> List.of("-1", "0", "1", "4", INDEX);
            default -> List.of("0", "1", "2", "3", "101", "104", INDEX);
        };
    }
}
