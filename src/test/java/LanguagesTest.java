/** Promises 1 to 3 and 8: a new object, setFallback, setNumbers, kindOf. */
public final class LanguagesTest {
    private static final Class<IndexOutOfBoundsException> INDEX = IndexOutOfBoundsException.class;
    private static final Class<IllegalArgumentException> ARGUMENT = IllegalArgumentException.class;
    private static final Check CHECK = new Check();

    public static void main(String[] args) {
        newObject();
        fallbacksAnswerTheOneBefore();
        fallbacksLeadWhatIsTold();
        chainsNeverGoRound();
        fallbacksRefuse();
        numbersAndClasses();
        edgesOfNumbers();
        fewNotAboveOnes();
        numbersRefuse();
        kindOfRefuses();
        CHECK.end();
    }

    private static void newObject() {
        PhraseCatalogue c = new PhraseCatalogue();
        CHECK.due("new draft", 0, () -> c.draft());
        CHECK.due("new pairs", 0, () -> c.pairs());
        for (int language = 0; language < 6; language++) {
            int l = language;
            CHECK.due("new missing", 0, () -> c.missing(l));
            CHECK.due("new class of 0", 2, () -> c.kindOf(l, 0));
            CHECK.due("new class of 1", 0, () -> c.kindOf(l, 1));
            CHECK.due("new class of 2", 2, () -> c.kindOf(l, 2));
            for (int key = 0; key < 10; key++) {
                int k = key;
                CHECK.due("new forms", 0, () -> c.forms(k, l));
                CHECK.due("new staleBy", -1, () -> c.staleBy(k, l));
            }
        }
        for (int key = 0; key < 10; key++) {
            int k = key;
            CHECK.due("new version", 0, () -> c.version(k));
        }
        PhraseCatalogue d = new PhraseCatalogue();
        for (int language = 1; language < 6; language++) {
            int l = language;
            CHECK.due("new fallback of " + l, 0, () -> d.setFallback(l, 0));
        }
    }

    private static void fallbacksAnswerTheOneBefore() {
        PhraseCatalogue c = new PhraseCatalogue();
        CHECK.due("first fallback", 0, () -> c.setFallback(5, 3));
        CHECK.due("second fallback", 3, () -> c.setFallback(5, 4));
        CHECK.due("the same again", 4, () -> c.setFallback(5, 4));
        CHECK.due("back to the source", 4, () -> c.setFallback(5, 0));
        CHECK.due("another language", 0, () -> c.setFallback(1, 5));
        CHECK.due("the source again", 0, () -> c.setFallback(5, 0));
    }

    private static void fallbacksLeadWhatIsTold() {
        PhraseCatalogue c = new PhraseCatalogue();
        Fill.put(c, 0, 0, 2, 0, 1);
        Fill.put(c, 0, 3, 2, 0, 2);
        CHECK.due("told by the source", 0, () -> c.toldBy(0, 5, 9, 0));
        c.setFallback(5, 4);
        c.setFallback(4, 3);
        CHECK.due("told two steps up", 3, () -> c.toldBy(0, 5, 9, 0));
        c.setFallback(4, 0);
        CHECK.due("told past the way", 0, () -> c.toldBy(0, 5, 9, 0));
    }

    private static void chainsNeverGoRound() {
        PhraseCatalogue c = new PhraseCatalogue();
        CHECK.refused("on itself", ARGUMENT, () -> c.setFallback(2, 2));
        for (int language = 1; language < 5; language++) {
            c.setFallback(language, language + 1);
        }
        for (int other = 1; other < 6; other++) {
            int o = other;
            CHECK.refused("5 on " + o, ARGUMENT, () -> c.setFallback(5, o));
        }
        CHECK.refused("3 on 2", ARGUMENT, () -> c.setFallback(3, 2));
        CHECK.due("5 on the source", 0, () -> c.setFallback(5, 0));
        CHECK.due("a step over one", 2, () -> c.setFallback(1, 3));
        CHECK.due("now it goes", 3, () -> c.setFallback(2, 1));
        CHECK.refused("now it does not", ARGUMENT, () -> c.setFallback(3, 2));
    }

    private static void fallbacksRefuse() {
        PhraseCatalogue c = new PhraseCatalogue();
        for (int language : new int[] {0, -1, 6, Integer.MIN_VALUE, Integer.MAX_VALUE}) {
            CHECK.refused("fallback of " + language, INDEX, () -> c.setFallback(language, 0));
            CHECK.refused("fallback of " + language, INDEX, () -> c.setFallback(language, language));
        }
        for (int other : new int[] {-1, 6, Integer.MIN_VALUE, Integer.MAX_VALUE}) {
            CHECK.refused("fallback on " + other, INDEX, () -> c.setFallback(1, other));
        }
        CHECK.refused("the source on 1", INDEX, () -> c.setFallback(0, 1));
        CHECK.due("5 goes", 0, () -> c.setFallback(5, 1));
    }

    private static void numbersAndClasses() {
        PhraseCatalogue c = new PhraseCatalogue();
        CHECK.due("numbers", null, () -> Fill.numbers(c, 1, 2, 4));
        int[] classes = {2, 0, 0, 1, 1, 2, 2};
        for (int number = 0; number < classes.length; number++) {
            int n = number;
            CHECK.due("class of " + n, classes[n], () -> c.kindOf(1, n));
        }
        CHECK.due("another language", 2, () -> c.kindOf(2, 2));
        c.setNumbers(0, 0, 3);
        CHECK.due("none are ones", 1, () -> c.kindOf(0, 1));
        CHECK.due("zero", 2, () -> c.kindOf(0, 0));
    }

    private static void edgesOfNumbers() {
        PhraseCatalogue c = new PhraseCatalogue();
        c.setNumbers(5, 0, 100);
        CHECK.due("100 is few", 1, () -> c.kindOf(5, 100));
        CHECK.due("101 is many", 2, () -> c.kindOf(5, 101));
        c.setNumbers(5, 100, 0);
        CHECK.due("100 is one", 0, () -> c.kindOf(5, 100));
        CHECK.due("101 is many", 2, () -> c.kindOf(5, 101));
        CHECK.due("the highest number", 2, () -> c.kindOf(5, Integer.MAX_VALUE));
        c.setNumbers(5, 0, 0);
        CHECK.due("1 is many", 2, () -> c.kindOf(5, 1));
        CHECK.due("0 is many", 2, () -> c.kindOf(5, 0));
        c.setNumbers(5, 100, 100);
        CHECK.due("1 is one", 0, () -> c.kindOf(5, 1));
    }

    private static void fewNotAboveOnes() {
        PhraseCatalogue c = new PhraseCatalogue();
        for (int few = 0; few <= 5; few++) {
            c.setNumbers(3, 5, few);
            for (int number = 0; number < 8; number++) {
                int n = number;
                CHECK.due("class of " + n, n >= 1 && n <= 5 ? 0 : 2, () -> c.kindOf(3, n));
            }
        }
    }

    private static void numbersRefuse() {
        PhraseCatalogue c = new PhraseCatalogue();
        for (int language : new int[] {-1, 6, Integer.MIN_VALUE, Integer.MAX_VALUE}) {
            CHECK.refused("numbers of " + language, INDEX, () -> Fill.numbers(c, language, 1, 1));
            CHECK.refused("numbers of " + language, INDEX, () -> Fill.numbers(c, language, -1, 101));
        }
        for (int limit : new int[] {-1, 101, Integer.MIN_VALUE, Integer.MAX_VALUE}) {
            CHECK.refused("ones " + limit, ARGUMENT, () -> Fill.numbers(c, 0, limit, 5));
            CHECK.refused("few " + limit, ARGUMENT, () -> Fill.numbers(c, 0, 5, limit));
        }
        CHECK.due("numbers stay", 2, () -> c.kindOf(0, 2));
    }

    private static void kindOfRefuses() {
        PhraseCatalogue c = new PhraseCatalogue();
        for (int language : new int[] {-1, 6, Integer.MIN_VALUE, Integer.MAX_VALUE}) {
            CHECK.refused("class in " + language, INDEX, () -> c.kindOf(language, 1));
            CHECK.refused("class in " + language, INDEX, () -> c.kindOf(language, -1));
        }
        CHECK.refused("class of -1", ARGUMENT, () -> c.kindOf(0, -1));
        CHECK.refused("class of the lowest", ARGUMENT, () -> c.kindOf(5, Integer.MIN_VALUE));
    }
}
