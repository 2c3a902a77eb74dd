import java.util.List;

/** The edges of promises 14 to 17: toldBy, toldByLooking, toldForm, toldSign. */
final class EdgesOfTold {
    private static final String[] ARGUMENTS = {"`key`: the key", "`language`: the language that is asked",
        "`number`: 0 or more", "`gender`: 0 to 2"};
    private static final String NO_SUCH = "if there is no such key, language or gender";
    private static final String BELOW_0 = "if number is below 0";

    private final Edges edges;

    EdgesOfTold(Edges edges) {
        this.edges = edges;
    }

    void run() {
        threeQuestions();
        promise14TheLanguage();
        promise14NothingIsTold();
        promise15TheOneThatIsTriedFirst();
        promise15AllForms();
        promise15NothingIsTold();
        promise16ClassAndGender();
        promise16NothingIsTold();
        promise17Arguments();
        promise17ASign();
        promise17NoSuch();
        promise17NothingIsTold();
        promise17NotSoManySigns();
        promise17NumberBelow0();
    }

    private void threeQuestions() {
        argumentsOf("Promise 14", (c, key, language, number, gender) -> c.toldBy(key, language, number, gender));
        argumentsOf("Promise 15", (c, key, language, number, gender) -> c.toldByLooking(key, language, number, gender));
        refusalsOf("Promise 14", (c, key, language, number, gender) -> c.toldBy(key, language, number, gender));
        refusalsOf("Promise 15", (c, key, language, number, gender) -> c.toldByLooking(key, language, number, gender));
        refusalsOf("Promise 16", (c, key, language, number, gender) -> c.toldForm(key, language, number, gender));
    }

    /** The least and the greatest of each argument; the form is there for just these. */
    private void argumentsOf(String promise, Edges.OfQuestion call) {
        edges.of(promise, ARGUMENTS);
        for (int key : new int[] {0, 9}) {
            for (int language : new int[] {0, 5}) {
                for (int gender : new int[] {0, 2}) {
                    PhraseCatalogue c = new PhraseCatalogue();
                    Fill.put(c, key, language, 2, gender, 1);
                    edges.due("the number 0", language, () -> call.answer(c, key, language, 0, gender));
                    edges.due("the greatest number", language, () -> call.answer(c, key, language, Edges.GREATEST, gender));
                    edges.due("of another key", -1, () -> call.answer(c, 9 - key, language, 0, gender));
                }
            }
        }
    }

    private void refusalsOf(String promise, Edges.OfQuestion call) {
        edges.of(promise, NO_SUCH);
        edges.refusesNoQuestions("asked", call);
        edges.of(promise, BELOW_0);
        edges.refusesNumbersBelow0("asked", call);
    }

    private void promise14TheLanguage() {
        edges.of("Promise 14", "Returns the language of the form that is told.", "Returns the language;");
        PhraseCatalogue c = new PhraseCatalogue();
        c.setFallback(1, 5);
        Fill.put(c, 0, 0, 2, 0, 1);
        edges.due("the least language", 0, () -> c.toldBy(0, 1, 0, 2));
        Fill.put(c, 0, 5, 2, 0, 1);
        edges.due("the greatest language", 5, () -> c.toldBy(0, 1, 0, 2));
        Fill.put(c, 0, 1, 2, 0, 1);
        edges.due("itself", 1, () -> c.toldBy(0, 1, 0, 2));
    }

    private void promise14NothingIsTold() {
        edges.of("Promise 14", "-1 if nothing is told");
        PhraseCatalogue c = new PhraseCatalogue();
        edges.due("no text", -1, () -> c.toldBy(0, 0, 0, 0));
        edges.due("no text", -1, () -> c.toldBy(9, 5, Edges.GREATEST, 2));
        Fill.put(c, 0, 0, 2, 1, 1);
        edges.due("of no gender that is tried", -1, () -> c.toldBy(0, 0, 0, 2));
        Fill.put(c, 0, 0, 0, 2, 1);
        edges.due("of no class that is tried", -1, () -> c.toldBy(0, 0, 0, 2));
        Fill.put(c, 0, 1, 2, 2, 1);
        edges.due("not in the chain", -1, () -> c.toldBy(0, 2, 0, 2));
        Fill.put(c, 0, 0, 2, 2, 1);
        edges.due("told", 0, () -> c.toldBy(0, 2, 0, 2));
        c.remove(0, 0, 2, 2);
        edges.due("not there any more", -1, () -> c.toldBy(0, 2, 0, 2));
    }

    private void promise15TheOneThatIsTriedFirst() {
        edges.of("Promise 15", "Returns the same, by looking at all forms of the key: of those that fit and could be "
            + "tried, the one that is tried first.", "Returns the language;");
        PhraseCatalogue c = new PhraseCatalogue();
        State.FULL.reach(c);
        c.set(3, 0, 2, 0, false);
        int[] fromTheEnd = {0, 5, 4, 3, 2, 1};
        for (int language : fromTheEnd) {
            Fill.put(c, 3, language, 2, 0, 1);
            edges.due("the last try of " + language, language, () -> c.toldByLooking(3, 1, 1, 2));
            edges.due("the same", language, () -> c.toldBy(3, 1, 1, 2));
            edges.due("the chain of the source is it alone", 0, () -> c.toldByLooking(3, 0, 1, 2));
        }
        Fill.put(c, 3, 1, 2, 0, 101, 1);
        edges.due("what does not fit is passed over", 2, () -> c.toldByLooking(3, 1, 1, 2));
        Fill.put(c, 3, 1, 1, 1, 1);
        edges.due("what could not be tried is passed over", 2, () -> c.toldByLooking(3, 1, 1, 2));
    }

    /** One form alone, from the very first of the source to the very last of the language 5. */
    private void promise15AllForms() {
        edges.of("Promise 15", "by looking at all forms of the key");
        for (int key : new int[] {0, 9}) {
            for (int language = 0; language < 6; language++) {
                for (int form = 0; form < 9; form++) {
                    PhraseCatalogue c = new PhraseCatalogue();
                    int l = language;
                    int number = form / 3 + 1;
                    int gender = form % 3;
                    c.setNumbers(l, 1, 2);
                    Fill.put(c, key, l, form / 3, gender, 1);
                    edges.due("in " + l + " form " + form, l, () -> c.toldByLooking(key, l, number, gender));
                }
            }
        }
    }

    private void promise15NothingIsTold() {
        edges.of("Promise 15", "-1 if nothing is told");
        PhraseCatalogue c = new PhraseCatalogue();
        edges.due("no text", -1, () -> c.toldByLooking(0, 0, 0, 0));
        edges.due("no text", -1, () -> c.toldByLooking(9, 5, Edges.GREATEST, 2));
        Fill.put(c, 0, 0, 2, 1, 1);
        Fill.put(c, 0, 0, 0, 2, 1);
        Fill.put(c, 0, 1, 2, 2, 1);
        edges.due("none that could be tried", -1, () -> c.toldByLooking(0, 2, 0, 2));
        Fill.put(c, 0, 2, 2, 2, 104);
        edges.due("none that fits", -1, () -> c.toldByLooking(0, 2, 0, 2));
    }

    private void promise16ClassAndGender() {
        edges.of("Promise 16", "Returns the class and gender of the form that is told.",
            "Returns 3 times the class, and the gender, together;", ARGUMENTS[0], ARGUMENTS[1], ARGUMENTS[2], ARGUMENTS[3]);
        for (int key : new int[] {0, 9}) {
            for (int language : new int[] {0, 5}) {
                PhraseCatalogue c = new PhraseCatalogue();
                c.setNumbers(language, 1, 2);
                for (int form = 0; form < 9; form++) {
                    Fill.put(c, key, language, form / 3, form % 3, 1);
                }
                int[] numbers = {0, 1, 2, 3, Edges.GREATEST};
                int[] kinds = {2, 0, 1, 2, 2};
                for (int i = 0; i < numbers.length; i++) {
                    for (int gender = 0; gender < 3; gender++) {
                        int n = numbers[i];
                        int g = gender;
                        edges.due("of " + n, 3 * kinds[i] + gender, () -> c.toldForm(key, language, n, g));
                    }
                }
            }
        }
    }

    private void promise16NothingIsTold() {
        edges.of("Promise 16", "-1 if nothing is told");
        PhraseCatalogue c = new PhraseCatalogue();
        edges.due("no text", -1, () -> c.toldForm(0, 0, 0, 0));
        edges.due("no text", -1, () -> c.toldForm(9, 5, Edges.GREATEST, 2));
        Fill.put(c, 0, 0, 0, 0, 1);
        edges.due("the class 0 and gender 0 are no nothing", 0, () -> c.toldForm(0, 5, 1, 2));
        edges.due("none of the class 2", -1, () -> c.toldForm(0, 5, 0, 2));
        c.remove(0, 0, 0, 0);
        edges.due("taken away", -1, () -> c.toldForm(0, 5, 1, 2));
    }

    private void promise17Arguments() {
        edges.of("Promise 17", ARGUMENTS);
        for (int key : new int[] {0, 9}) {
            for (int language : new int[] {0, 5}) {
                for (int gender : new int[] {0, 2}) {
                    PhraseCatalogue c = new PhraseCatalogue();
                    Fill.put(c, key, language, 2, gender, 7);
                    edges.due("the number 0", 7, () -> c.toldSign(key, language, 0, gender, 0));
                    edges.due("the greatest number", 7, () -> c.toldSign(key, language, Edges.GREATEST, gender, 0));
                }
            }
        }
    }

    private void promise17ASign() {
        edges.of("Promise 17", "Returns a sign of the form that is told.", "Returns the sign.", "`place`: 0 for the first one");
        PhraseCatalogue c = new PhraseCatalogue();
        int[] signs = {1, 99, 101, 102, 103, 104, 50, 2};
        Fill.put(c, 0, 0, 2, 0, signs);
        Fill.put(c, 0, 5, 2, 1, true, 98);
        for (int place = 0; place < 8; place++) {
            int at = place;
            edges.due("at " + at, signs[at], () -> c.toldSign(0, 5, 9, 0, at));
        }
        edges.due("of one sign", 98, () -> c.toldSign(0, 5, 9, 1, 0));
    }

    private void promise17NoSuch() {
        edges.of("Promise 17", NO_SUCH);
        edges.refusesNoQuestions("the first sign", (c, key, language, number, gender) -> c.toldSign(key, language, number, gender, 0));
        edges.refusesNoQuestions("the sign at -1", (c, key, language, number, gender) -> c.toldSign(key, language, number, gender, -1));
    }

    private void promise17NothingIsTold() {
        edges.of("Promise 17", "or number is 0 or more, and nothing is told");
        for (int number : new int[] {0, 1, Edges.GREATEST}) {
            for (int place : new int[] {0, 7, 8, -1, Edges.LEAST, Edges.GREATEST}) {
                edges.refusedIn(List.of(State.NEW), "of no text", Edges.INDEX, c -> c.toldSign(0, 0, number, 0, place));
                edges.refusedIn(List.of(State.NEW), "of no text", Edges.INDEX, c -> c.toldSign(9, 5, number, 2, place));
            }
            edges.refusedIn(List.of(State.FULL), "of no text", Edges.INDEX, c -> c.toldSign(1, 5, number, 2, 0));
            edges.refusedIn(List.of(State.FILLED), "of no text", Edges.INDEX, c -> c.toldSign(1, 1, number, 0, 0));
        }
    }

    private void promise17NotSoManySigns() {
        edges.of("Promise 17", "or it does not have so many signs");
        for (int place : new int[] {8, 9, Edges.GREATEST, -1, Edges.LEAST}) {
            edges.refusedIn(List.of(State.FULL), "of eight at " + place, Edges.INDEX, c -> c.toldSign(0, 0, 100, 0, place));
        }
        for (int place : new int[] {1, 2, Edges.GREATEST, -1, Edges.LEAST}) {
            edges.refusedIn(List.of(State.FULL), "of one at " + place, Edges.INDEX, c -> c.toldSign(9, 0, 0, 0, place));
        }
        PhraseCatalogue c = new PhraseCatalogue();
        for (int many = 1; many <= 8; many++) {
            int last = many - 1;
            for (int i = 0; i < many; i++) {
                c.sign(10 + i);
            }
            c.set(0, 0, 2, 0, false);
            edges.due("the last of " + many, 10 + last, () -> c.toldSign(0, 0, 0, 0, last));
            edges.refused("past the last of " + many, Edges.INDEX, () -> c.toldSign(0, 0, 0, 0, last + 1));
        }
    }

    /** A place that is not there, and nothing told, count only for a number of 0 or more. */
    private void promise17NumberBelow0() {
        edges.of("Promise 17", BELOW_0);
        for (int place : new int[] {0, 8, -1, Edges.LEAST, Edges.GREATEST}) {
            edges.refusesNumbersBelow0("the sign at " + place,
                (c, key, language, number, gender) -> c.toldSign(key, language, number, gender, place));
        }
    }
}
