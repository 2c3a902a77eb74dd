/** Promises 4 to 7 and 9 to 13: the draft, set, remove, and what is there. */
public final class TextsTest {
    private static final Class<IndexOutOfBoundsException> INDEX = IndexOutOfBoundsException.class;
    private static final Class<IllegalArgumentException> ARGUMENT = IllegalArgumentException.class;
    private static final Class<IllegalStateException> STATE = IllegalStateException.class;
    private static final int[] FAR = {-1, Integer.MIN_VALUE, Integer.MAX_VALUE};
    private static final Check CHECK = new Check();

    public static void main(String[] args) {
        signsOfTheDraft();
        signRefuses();
        setTakesTheDraft();
        setRefuses();
        removeAnswersTheSigns();
        removeRefuses();
        formsAreCounted();
        versions();
        versionStaysWithoutText();
        stale();
        staleOfWhatCameBeforeTheSource();
        missing();
        fits();
        fitsByAllFormsOfTheSource();
        eachPlaceholderCounts();
        questionsRefuse();
        CHECK.end();
    }

    private static void signsOfTheDraft() {
        PhraseCatalogue c = new PhraseCatalogue();
        int[] signs = {1, 99, 101, 104, 50, 50, 102, 103};
        for (int i = 0; i < signs.length; i++) {
            int at = i;
            CHECK.due("draft before", at, () -> c.draft());
            CHECK.due("sign " + signs[at], at + 1, () -> c.sign(signs[at]));
        }
        CHECK.due("full draft", 8, () -> c.draft());
        CHECK.refused("ninth sign", STATE, () -> c.sign(1));
        CHECK.due("still full", 8, () -> c.draft());
        c.set(0, 0, 2, 0, false);
        CHECK.due("empty draft", 0, () -> c.draft());
        for (int i = 0; i < signs.length; i++) {
            int at = i;
            CHECK.due("sign at " + at, signs[at], () -> c.toldSign(0, 0, 0, 0, at));
        }
        CHECK.due("a new draft", 1, () -> c.sign(3));
    }

    private static void signRefuses() {
        PhraseCatalogue c = new PhraseCatalogue();
        int[] wrong = {0, -1, 100, 105, 106, Integer.MIN_VALUE, Integer.MAX_VALUE};
        for (int sign : wrong) {
            CHECK.refused("sign " + sign, ARGUMENT, () -> c.sign(sign));
        }
        CHECK.due("empty yet", 0, () -> c.draft());
        Fill.draft(c, 1, 1, 1, 1, 1, 1, 1, 1);
        for (int sign : wrong) {
            CHECK.refused("sign " + sign + " to a full draft", ARGUMENT, () -> c.sign(sign));
        }
        CHECK.refused("104 to a full draft", STATE, () -> c.sign(104));
    }

    private static void setTakesTheDraft() {
        PhraseCatalogue c = new PhraseCatalogue();
        CHECK.due("a translation first", 0, () -> Fill.put(c, 9, 5, 2, 2, 7));
        CHECK.due("the source", 1, () -> Fill.put(c, 9, 0, 2, 2, 8, 9));
        CHECK.due("the draft is empty", 0, () -> c.draft());
        CHECK.due("the source anew", 2, () -> Fill.put(c, 9, 0, 2, 2, 6, 5, 4));
        CHECK.due("a translation", 2, () -> Fill.put(c, 9, 5, 0, 0, 7));
        CHECK.due("another key", 1, () -> Fill.put(c, 0, 0, 0, 0, 7));
        CHECK.due("the new sign", 4, () -> c.toldSign(9, 0, 0, 2, 2));
        CHECK.due("one form yet", 1, () -> c.forms(9, 0));
        Fill.put(c, 9, 0, 2, 2, 3);
        CHECK.refused("a shorter form", INDEX, () -> c.toldSign(9, 0, 0, 2, 1));
    }

    private static void setRefuses() {
        PhraseCatalogue c = new PhraseCatalogue();
        refusedPlaces("set, empty draft", (k, l, n, g) -> c.set(k, l, n, g, false));
        CHECK.refused("set with an empty draft", STATE, () -> c.set(0, 0, 0, 0, false));
        c.sign(4);
        refusedPlaces("set", (k, l, n, g) -> c.set(k, l, n, g, true));
        CHECK.due("the draft stays", 1, () -> c.draft());
        CHECK.due("set", 1, () -> c.set(0, 0, 0, 0, false));
        CHECK.refused("set again", STATE, () -> c.set(0, 0, 0, 0, false));
        CHECK.due("the version stays", 1, () -> c.version(0));
    }

    private static void removeAnswersTheSigns() {
        PhraseCatalogue c = new PhraseCatalogue();
        Fill.put(c, 4, 0, 1, 2, 1, 2, 3, 4, 5, 6, 7, 8);
        Fill.put(c, 4, 2, 2, 1, 1);
        c.sign(5);
        CHECK.due("eight signs", 8, () -> c.remove(4, 0, 1, 2));
        CHECK.due("one sign", 1, () -> c.remove(4, 2, 2, 1));
        CHECK.due("no source", 0, () -> c.forms(4, 0));
        CHECK.due("no translation", 0, () -> c.forms(4, 2));
        CHECK.due("the draft stays", 1, () -> c.draft());
    }

    private static void removeRefuses() {
        PhraseCatalogue c = new PhraseCatalogue();
        Fill.put(c, 4, 0, 1, 2, 1);
        refusedPlaces("remove", (k, l, n, g) -> c.remove(k, l, n, g));
        CHECK.refused("another key", STATE, () -> c.remove(3, 0, 1, 2));
        CHECK.refused("another language", STATE, () -> c.remove(4, 1, 1, 2));
        CHECK.refused("another class", STATE, () -> c.remove(4, 0, 2, 2));
        CHECK.refused("another gender", STATE, () -> c.remove(4, 0, 1, 1));
        CHECK.due("the version stays", 1, () -> c.version(4));
        CHECK.due("one sign", 1, () -> c.remove(4, 0, 1, 2));
        CHECK.refused("once more", STATE, () -> c.remove(4, 0, 1, 2));
    }

    private static void formsAreCounted() {
        PhraseCatalogue c = new PhraseCatalogue();
        int count = 0;
        for (int kind = 0; kind < 3; kind++) {
            for (int gender = 0; gender < 3; gender++) {
                Fill.put(c, 9, 5, kind, gender, 1);
                count++;
                CHECK.due("forms", count, () -> c.forms(9, 5));
            }
        }
        Fill.put(c, 9, 5, 1, 1, 2);
        CHECK.due("a form anew", 9, () -> c.forms(9, 5));
        c.remove(9, 5, 0, 0);
        CHECK.due("a form less", 8, () -> c.forms(9, 5));
        CHECK.due("another language", 0, () -> c.forms(9, 4));
        CHECK.due("another key", 0, () -> c.forms(8, 5));
    }

    private static void versions() {
        PhraseCatalogue c = new PhraseCatalogue();
        Fill.put(c, 2, 0, 0, 0, 1);
        Fill.put(c, 2, 0, 0, 1, 1);
        CHECK.due("two forms", 2, () -> c.version(2));
        Fill.put(c, 2, 0, 0, 1, 1);
        CHECK.due("the same signs", 3, () -> c.version(2));
        Fill.put(c, 2, 3, 0, 1, 1);
        c.remove(2, 3, 0, 1);
        CHECK.due("a translation counts not", 3, () -> c.version(2));
        c.remove(2, 0, 0, 0);
        CHECK.due("a form less", 4, () -> c.version(2));
        CHECK.due("another key", 0, () -> c.version(1));
    }

    private static void versionStaysWithoutText() {
        PhraseCatalogue c = new PhraseCatalogue();
        Fill.put(c, 2, 0, 0, 0, 1);
        c.remove(2, 0, 0, 0);
        CHECK.due("no text", -1, () -> c.staleBy(2, 0));
        CHECK.due("the version stays", 2, () -> c.version(2));
        CHECK.due("the version goes on", 3, () -> Fill.put(c, 2, 0, 1, 1, 1));
        CHECK.due("a text again", 0, () -> c.staleBy(2, 0));
    }

    private static void stale() {
        PhraseCatalogue c = new PhraseCatalogue();
        Fill.put(c, 0, 0, 0, 0, 1);
        Fill.put(c, 0, 1, 0, 0, 1);
        Fill.put(c, 0, 1, 1, 0, 1);
        Fill.put(c, 0, 2, 0, 0, 1);
        CHECK.due("fresh", 0, () -> c.staleBy(0, 1));
        Fill.put(c, 0, 0, 2, 2, 1);
        c.remove(0, 0, 2, 2);
        CHECK.due("two versions", 2, () -> c.staleBy(0, 1));
        CHECK.due("the source never is", 0, () -> c.staleBy(0, 0));
        Fill.put(c, 1, 0, 2, 2, 1);
        CHECK.due("of another key", 2, () -> c.staleBy(0, 1));
        c.remove(0, 1, 1, 0);
        CHECK.due("a form taken away is a change", 0, () -> c.staleBy(0, 1));
        CHECK.due("not of another language", 2, () -> c.staleBy(0, 2));
        c.remove(0, 0, 0, 0);
        CHECK.due("without a source text", 1, () -> c.staleBy(0, 1));
        c.remove(0, 1, 0, 0);
        CHECK.due("no text", -1, () -> c.staleBy(0, 1));
        Fill.put(c, 0, 1, 0, 0, 1);
        CHECK.due("a text again", 0, () -> c.staleBy(0, 1));
        CHECK.due("no source text", -1, () -> c.staleBy(0, 0));
    }

    private static void staleOfWhatCameBeforeTheSource() {
        PhraseCatalogue c = new PhraseCatalogue();
        Fill.put(c, 7, 4, 0, 0, 1);
        CHECK.due("before the source", 0, () -> c.staleBy(7, 4));
        Fill.put(c, 7, 0, 0, 0, 1);
        CHECK.due("after the source", 1, () -> c.staleBy(7, 4));
    }

    private static void missing() {
        PhraseCatalogue c = new PhraseCatalogue();
        for (int key = 0; key < 10; key++) {
            Fill.put(c, key, 0, key % 3, key / 4, 1);
        }
        CHECK.due("all", 10, () -> c.missing(5));
        CHECK.due("none of the source", 0, () -> c.missing(0));
        Fill.put(c, 0, 5, 2, 2, 1);
        Fill.put(c, 9, 5, 0, 1, 1);
        CHECK.due("all but two", 8, () -> c.missing(5));
        CHECK.due("all of another", 10, () -> c.missing(4));
        c.remove(0, 0, 0, 0);
        CHECK.due("a source text less", 8, () -> c.missing(5));
        CHECK.due("a source text less", 9, () -> c.missing(4));
        c.remove(9, 5, 0, 1);
        CHECK.due("a translation less", 9, () -> c.missing(5));
        CHECK.due("the source lacks none", 0, () -> c.missing(0));
    }

    private static void fits() {
        PhraseCatalogue c = new PhraseCatalogue();
        CHECK.due("not there", false, () -> c.fits(0, 1, 0, 0));
        Fill.put(c, 0, 1, 0, 0, 1);
        CHECK.due("words without a source", true, () -> c.fits(0, 1, 0, 0));
        Fill.put(c, 0, 1, 0, 0, true, 1, 101);
        CHECK.due("strange without a source", false, () -> c.fits(0, 1, 0, 0));
        Fill.put(c, 0, 0, 2, 2, 101, 103);
        CHECK.due("lacks, and may", true, () -> c.fits(0, 1, 0, 0));
        Fill.put(c, 0, 1, 0, 0, false, 1, 101);
        CHECK.due("lacks", false, () -> c.fits(0, 1, 0, 0));
        Fill.put(c, 0, 1, 0, 0, 103, 5, 101, 101);
        CHECK.due("has all", true, () -> c.fits(0, 1, 0, 0));
        Fill.put(c, 0, 1, 0, 0, true, 103, 101, 104);
        CHECK.due("strange, and may lack", false, () -> c.fits(0, 1, 0, 0));
        CHECK.due("another gender", false, () -> c.fits(0, 1, 0, 1));
        Fill.put(c, 1, 0, 2, 2, 101, 103, 104);
        CHECK.due("another key has it", false, () -> c.fits(0, 1, 0, 0));
    }

    private static void fitsByAllFormsOfTheSource() {
        PhraseCatalogue c = new PhraseCatalogue();
        Fill.put(c, 0, 0, 0, 0, 101);
        CHECK.due("its own", true, () -> c.fits(0, 0, 0, 0));
        Fill.put(c, 0, 0, 2, 2, 104);
        CHECK.due("the source lacks, too", false, () -> c.fits(0, 0, 0, 0));
        CHECK.due("the source lacks, too", false, () -> c.fits(0, 0, 2, 2));
        Fill.put(c, 0, 3, 1, 1, 101, 104);
        CHECK.due("has those of both", true, () -> c.fits(0, 3, 1, 1));
        Fill.put(c, 0, 0, 0, 0, true, 101);
        CHECK.due("may lack", true, () -> c.fits(0, 0, 0, 0));
        c.remove(0, 0, 2, 2);
        CHECK.due("strange since then", false, () -> c.fits(0, 3, 1, 1));
        Fill.put(c, 0, 4, 1, 1, 104);
        CHECK.due("another translation counts not", false, () -> c.fits(0, 3, 1, 1));
    }

    private static void eachPlaceholderCounts() {
        for (int placeholder = 101; placeholder <= 104; placeholder++) {
            PhraseCatalogue c = new PhraseCatalogue();
            Fill.put(c, 0, 0, 1, 1, 9, placeholder);
            for (int other = 101; other <= 104; other++) {
                Fill.put(c, 0, 2, 0, 0, other, 8);
                CHECK.due(placeholder + " and " + other, placeholder == other, () -> c.fits(0, 2, 0, 0));
            }
        }
    }

    private static void questionsRefuse() {
        PhraseCatalogue c = new PhraseCatalogue();
        refusedPlaces("fits", (k, l, n, g) -> c.fits(k, l, n, g));
        for (int far : FAR) {
            refusedTextQuestions(c, far, far);
        }
        refusedTextQuestions(c, 10, 6);
    }

    private static void refusedTextQuestions(PhraseCatalogue c, int key, int language) {
        CHECK.refused("forms, key " + key, INDEX, () -> c.forms(key, 0));
        CHECK.refused("forms, language " + language, INDEX, () -> c.forms(0, language));
        CHECK.refused("version, key " + key, INDEX, () -> c.version(key));
        CHECK.refused("staleBy, key " + key, INDEX, () -> c.staleBy(key, 0));
        CHECK.refused("staleBy, language " + language, INDEX, () -> c.staleBy(0, language));
        CHECK.refused("missing, language " + language, INDEX, () -> c.missing(language));
    }

    private interface OfPlace {
        Object answer(int key, int language, int kind, int gender);
    }

    private static void refusedPlaces(String what, OfPlace call) {
        for (int far : FAR) {
            refusedPlace(what, call, far, far, far);
        }
        refusedPlace(what, call, 10, 6, 3);
    }

    private static void refusedPlace(String what, OfPlace call, int key, int language, int three) {
        CHECK.refused(what + ", key " + key, INDEX, () -> call.answer(key, 0, 0, 0));
        CHECK.refused(what + ", language " + language, INDEX, () -> call.answer(0, language, 0, 0));
        CHECK.refused(what + ", class " + three, INDEX, () -> call.answer(0, 0, three, 0));
        CHECK.refused(what + ", gender " + three, INDEX, () -> call.answer(0, 0, 0, three));
    }
}
