import java.io.IOException;
import java.util.List;

/** Checks that are held to the document's sentences, each named by its section and its words. */
final class Edges extends Check {
    static final Class<IndexOutOfBoundsException> INDEX = IndexOutOfBoundsException.class;
    static final Class<IllegalArgumentException> ARGUMENT = IllegalArgumentException.class;
    static final Class<IllegalStateException> STATE = IllegalStateException.class;
    static final int LEAST = Integer.MIN_VALUE;
    static final int GREATEST = Integer.MAX_VALUE;
    static final int[] NO_LANGUAGES = {-1, 6, LEAST, GREATEST};
    static final int[] NO_KEYS = {-1, 10, LEAST, GREATEST};
    /** Neither a number class nor a gender. */
    static final int[] NO_THREES = {-1, 3, LEAST, GREATEST};
    static final int[] NO_NUMBERS = {-1, LEAST};

    /** A call on an object in some state; the answer of a void call is null. */
    interface Asked {
        Object answer(PhraseCatalogue c);
    }

    /** A call for a place where a form can be. */
    interface OfPlace {
        Object answer(PhraseCatalogue c, int key, int language, int kind, int gender);
    }

    /** A call for what is told. */
    interface OfQuestion {
        Object answer(PhraseCatalogue c, int key, int language, int number, int gender);
    }

    private final Document document = new Document();

    Edges() throws IOException {
        // Only the document has to be read.
    }

    /** The sentences that the checks from here on are for; they must stand in the section word by word. */
    void of(String section, String... sentences) {
        heading(section + ", \"" + String.join("\", \"", sentences) + "\": ");
        for (String words : sentences) {
            compare("\"" + words + "\" stands there", "true", String.valueOf(document.quote(section, words)));
        }
    }

    void everySentenceHasATest() {
        heading("The document: ");
        for (String sentence : document.sentencesWithoutTest()) {
            compare("a test of " + sentence, "there", "not there");
        }
    }

    /** A call that throws this exception in each of the states, and changes no answer of any other call. */
    void refusedIn(List<State> states, String what, Class<? extends RuntimeException> want, Asked call) {
        for (State state : states) {
            PhraseCatalogue c = new PhraseCatalogue();
            state.reach(c);
            refused(what + " on a " + state + " one", want, () -> call.answer(c));
            changesNothing(state, what, call);
        }
    }

    void refusedInAll(String what, Class<? extends RuntimeException> want, Asked call) {
        refusedIn(List.of(State.values()), what, want, call);
    }

    void changesNothing(State state, String what, Asked call) {
        List<String> after = Snapshot.after(c -> {
            state.reach(c);
            outcome(() -> call.answer(c));
        });
        List<String> before = state.answers();
        compare(what + ", how many answers", String.valueOf(before.size()), String.valueOf(after.size()));
        for (int i = 0; i < before.size() && i < after.size(); i++) {
            compare("after " + what + " on a " + state + " one", before.get(i), after.get(i));
        }
    }

    /** Each argument alone one of those that are not there, and all of them together. */
    void refusesNoPlaces(String what, OfPlace call) {
        for (int i = 0; i < NO_KEYS.length; i++) {
            int key = NO_KEYS[i];
            int language = NO_LANGUAGES[i];
            int three = NO_THREES[i];
            refusedInAll(what + " of the key " + key, INDEX, c -> call.answer(c, key, 0, 0, 0));
            refusedInAll(what + " of the language " + language, INDEX, c -> call.answer(c, 0, language, 0, 0));
            refusedInAll(what + " of the class " + three, INDEX, c -> call.answer(c, 0, 0, three, 0));
            refusedInAll(what + " of the gender " + three, INDEX, c -> call.answer(c, 0, 0, 0, three));
            refusedInAll(what + " of the key, language, class and gender of turn " + i, INDEX,
                c -> call.answer(c, key, language, three, three));
        }
    }

    /** Each argument alone one of those that are not there, and together with a number below 0. */
    void refusesNoQuestions(String what, OfQuestion call) {
        for (int number : new int[] {0, GREATEST, -1, LEAST}) {
            for (int i = 0; i < NO_KEYS.length; i++) {
                int key = NO_KEYS[i];
                int language = NO_LANGUAGES[i];
                int gender = NO_THREES[i];
                String of = what + " of the number " + number + " and ";
                refusedInAll(of + "the key " + key, INDEX, c -> call.answer(c, key, 0, number, 0));
                refusedInAll(of + "the language " + language, INDEX, c -> call.answer(c, 0, language, number, 0));
                refusedInAll(of + "the gender " + gender, INDEX, c -> call.answer(c, 0, 0, number, gender));
                refusedInAll(of + "the key, language and gender of turn " + i, INDEX,
                    c -> call.answer(c, key, language, number, gender));
            }
        }
    }

    void refusesNumbersBelow0(String what, OfQuestion call) {
        for (int number : NO_NUMBERS) {
            refusedInAll(what + " of the number " + number, ARGUMENT, c -> call.answer(c, 0, 0, number, 0));
            refusedInAll(what + " of the number " + number, ARGUMENT, c -> call.answer(c, 9, 5, number, 2));
        }
    }

    /** What is told, asked in each way; -1 for both if nothing is. */
    void told(PhraseCatalogue c, int key, int language, int number, int gender, int by, int form) {
        String of = " of key " + key + ", language " + language + ", number " + number + ", gender " + gender;
        due("toldBy" + of, by, () -> c.toldBy(key, language, number, gender));
        due("toldByLooking" + of, by, () -> c.toldByLooking(key, language, number, gender));
        due("toldForm" + of, form, () -> c.toldForm(key, language, number, gender));
        if (by < 0) {
            refused("toldSign" + of, INDEX, () -> c.toldSign(key, language, number, gender, 0));
        }
    }
}
