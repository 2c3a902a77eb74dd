/** Promises 14 to 17: toldBy, toldByLooking, toldForm, toldSign. */
public final class ToldTest {
    private static final Class<IndexOutOfBoundsException> INDEX = IndexOutOfBoundsException.class;
    private static final Class<IllegalArgumentException> ARGUMENT = IllegalArgumentException.class;
    private static final int[] FAR = {-1, Integer.MIN_VALUE, Integer.MAX_VALUE};
    private static final Check CHECK = new Check();

    public static void main(String[] args) {
        theFourTriesInTheirOrder();
        anotherClassOrGenderIsNotTried();
        theChainInItsOrder();
        theChainInNoOrderOfNumbers();
        eachLanguageHasItsNumbers();
        whatDoesNotFitIsPassedOver();
        staleIsToldToo();
        nothingIsTold();
        signsOfWhatIsTold();
        questionsRefuse();
        CHECK.end();
    }

    private static void told(PhraseCatalogue c, int key, int language, int number, int gender, int by, int form) {
        String what = " of " + key + " in " + language + ", number " + number + ", gender " + gender;
        CHECK.due("toldBy" + what, by, () -> c.toldBy(key, language, number, gender));
        CHECK.due("toldByLooking" + what, by, () -> c.toldByLooking(key, language, number, gender));
        CHECK.due("toldForm" + what, form, () -> c.toldForm(key, language, number, gender));
    }

    private static void theFourTriesInTheirOrder() {
        PhraseCatalogue c = new PhraseCatalogue();
        c.setNumbers(2, 1, 3);
        Fill.put(c, 3, 0, 1, 1, 90);
        told(c, 3, 2, 2, 1, -1, -1);
        Fill.put(c, 3, 0, 2, 0, 91);
        told(c, 3, 2, 2, 1, 0, 6);
        Fill.put(c, 3, 2, 2, 0, 1);
        told(c, 3, 2, 2, 1, 2, 6);
        Fill.put(c, 3, 2, 2, 1, 2);
        told(c, 3, 2, 2, 1, 2, 7);
        Fill.put(c, 3, 2, 1, 0, 3);
        told(c, 3, 2, 2, 1, 2, 3);
        Fill.put(c, 3, 2, 1, 1, 4);
        told(c, 3, 2, 2, 1, 2, 4);
        told(c, 3, 2, 2, 0, 2, 3);
        told(c, 3, 2, 2, 2, 2, 3);
        told(c, 3, 2, 1, 1, 2, 7);
        told(c, 3, 2, 1, 2, 2, 6);
        told(c, 3, 2, 0, 1, 2, 7);
        told(c, 3, 2, 4, 2, 2, 6);
    }

    private static void anotherClassOrGenderIsNotTried() {
        PhraseCatalogue c = new PhraseCatalogue();
        c.setNumbers(0, 1, 3);
        Fill.put(c, 0, 0, 0, 1, 1);
        told(c, 0, 0, 1, 1, 0, 1);
        told(c, 0, 0, 1, 2, -1, -1);
        told(c, 0, 0, 1, 0, -1, -1);
        told(c, 0, 0, 2, 1, -1, -1);
        told(c, 0, 0, 9, 1, -1, -1);
        told(c, 0, 0, 0, 1, -1, -1);
        Fill.put(c, 0, 0, 1, 0, 1);
        told(c, 0, 0, 1, 2, -1, -1);
        told(c, 0, 0, 3, 2, 0, 3);
        told(c, 0, 0, 4, 2, -1, -1);
        Fill.put(c, 0, 0, 0, 0, 1);
        told(c, 0, 0, 1, 1, 0, 1);
        told(c, 0, 0, 1, 2, 0, 0);
        told(c, 0, 0, 0, 2, -1, -1);
    }

    private static void theChainInItsOrder() {
        PhraseCatalogue c = new PhraseCatalogue();
        for (int language = 5; language >= 2; language--) {
            c.setFallback(language, language - 1);
        }
        Fill.put(c, 9, 0, 0, 1, 1);
        told(c, 9, 5, 1, 1, 0, 1);
        for (int language = 1; language <= 5; language++) {
            Fill.put(c, 9, language, 2, 0, language);
            told(c, 9, 5, 1, 1, language, 6);
        }
        told(c, 9, 3, 1, 1, 3, 6);
        told(c, 9, 0, 1, 1, 0, 1);
        c.setFallback(5, 2);
        c.remove(9, 5, 2, 0);
        told(c, 9, 5, 1, 1, 2, 6);
        c.setFallback(5, 0);
        told(c, 9, 5, 1, 1, 0, 1);
    }

    /** The first of the chain is told even by its last try, whatever the later ones have. */
    private static void theChainInNoOrderOfNumbers() {
        PhraseCatalogue c = new PhraseCatalogue();
        c.setFallback(2, 4);
        c.setFallback(4, 1);
        c.setFallback(1, 5);
        c.setFallback(5, 3);
        int[] fromTheEnd = {0, 3, 5, 1, 4};
        for (int i = 0; i < fromTheEnd.length; i++) {
            int language = fromTheEnd[i];
            Fill.put(c, 6, language, 2, 0, language + 1);
            told(c, 6, 2, 1, 1, language, 6);
            Fill.put(c, 6, language, 0, 1, language + 1);
            told(c, 6, 2, 1, 1, language, 1);
        }
        told(c, 6, 1, 1, 1, 1, 1);
        Fill.put(c, 6, 2, 2, 0, 9);
        told(c, 6, 2, 1, 1, 2, 6);
    }

    private static void eachLanguageHasItsNumbers() {
        PhraseCatalogue c = new PhraseCatalogue();
        c.setFallback(4, 1);
        c.setNumbers(4, 9, 9);
        c.setNumbers(1, 0, 9);
        Fill.put(c, 5, 0, 2, 0, 1);
        Fill.put(c, 5, 1, 0, 0, 1);
        told(c, 5, 4, 5, 0, 0, 6);
        Fill.put(c, 5, 1, 1, 0, 1);
        told(c, 5, 4, 5, 0, 1, 3);
        Fill.put(c, 5, 4, 1, 0, 1);
        told(c, 5, 4, 5, 0, 1, 3);
        Fill.put(c, 5, 4, 0, 0, 1);
        told(c, 5, 4, 5, 0, 4, 0);
        told(c, 5, 4, 10, 0, 0, 6);
        told(c, 5, 4, 0, 0, 0, 6);
        told(c, 5, 4, Integer.MAX_VALUE, 0, 0, 6);
    }

    private static void whatDoesNotFitIsPassedOver() {
        PhraseCatalogue c = new PhraseCatalogue();
        c.setFallback(2, 1);
        Fill.put(c, 0, 0, 2, 0, 1, 101);
        Fill.put(c, 0, 1, 2, 0, true, 1);
        Fill.put(c, 0, 2, 0, 1, 1);
        Fill.put(c, 0, 2, 0, 0, true, 102);
        Fill.put(c, 0, 2, 2, 1, 101, 104);
        Fill.put(c, 0, 2, 2, 0, 101);
        told(c, 0, 2, 1, 1, 2, 6);
        Fill.put(c, 0, 2, 2, 0, 2);
        told(c, 0, 2, 1, 1, 1, 6);
        Fill.put(c, 0, 1, 2, 0, false, 1);
        told(c, 0, 2, 1, 1, 0, 6);
        Fill.put(c, 0, 0, 0, 0, 102);
        told(c, 0, 2, 1, 1, 2, 0);
        told(c, 0, 0, 1, 1, -1, -1);
        told(c, 0, 1, 1, 1, -1, -1);
    }

    private static void staleIsToldToo() {
        PhraseCatalogue c = new PhraseCatalogue();
        Fill.put(c, 0, 0, 2, 0, 1);
        Fill.put(c, 0, 1, 2, 0, 2);
        Fill.put(c, 0, 0, 2, 0, 3);
        told(c, 0, 1, 9, 0, 1, 6);
        c.remove(0, 0, 2, 0);
        told(c, 0, 1, 9, 0, 1, 6);
        told(c, 0, 2, 9, 0, -1, -1);
    }

    private static void nothingIsTold() {
        PhraseCatalogue c = new PhraseCatalogue();
        told(c, 0, 0, 0, 0, -1, -1);
        told(c, 9, 5, 1, 2, -1, -1);
        CHECK.refused("toldSign of nothing", INDEX, () -> c.toldSign(0, 0, 0, 0, 0));
        Fill.put(c, 0, 1, 2, 0, 1);
        told(c, 0, 0, 0, 0, -1, -1);
        told(c, 1, 1, 0, 0, -1, -1);
        told(c, 0, 2, 0, 0, -1, -1);
        told(c, 0, 1, 0, 0, 1, 6);
    }

    private static void signsOfWhatIsTold() {
        PhraseCatalogue c = new PhraseCatalogue();
        Fill.put(c, 0, 0, 2, 0, 1, 2, 3, 4, 5, 6, 7, 104);
        Fill.put(c, 0, 3, 2, 1, 99, 104);
        for (int place = 0; place < 7; place++) {
            int at = place;
            CHECK.due("sign at " + at, at + 1, () -> c.toldSign(0, 3, 9, 0, at));
        }
        CHECK.due("the last sign", 104, () -> c.toldSign(0, 3, 9, 0, 7));
        CHECK.due("the first sign", 99, () -> c.toldSign(0, 3, 9, 1, 0));
        CHECK.due("the second sign", 104, () -> c.toldSign(0, 3, 9, 1, 1));
        CHECK.refused("past the end", INDEX, () -> c.toldSign(0, 3, 9, 0, 8));
        CHECK.refused("past the end of a short one", INDEX, () -> c.toldSign(0, 3, 9, 1, 2));
        for (int far : FAR) {
            CHECK.refused("sign at " + far, INDEX, () -> c.toldSign(0, 3, 9, 0, far));
            CHECK.refused("sign at " + far + " for number -1", ARGUMENT, () -> c.toldSign(0, 3, -1, 0, far));
        }
    }

    private interface Question {
        Object answer(int key, int language, int number, int gender);
    }

    private static void questionsRefuse() {
        PhraseCatalogue empty = new PhraseCatalogue();
        PhraseCatalogue c = new PhraseCatalogue();
        Fill.put(c, 0, 0, 2, 0, 1);
        for (PhraseCatalogue asked : new PhraseCatalogue[] {empty, c}) {
            refused("toldBy", (k, l, n, g) -> asked.toldBy(k, l, n, g));
            refused("toldByLooking", (k, l, n, g) -> asked.toldByLooking(k, l, n, g));
            refused("toldForm", (k, l, n, g) -> asked.toldForm(k, l, n, g));
            refused("toldSign", (k, l, n, g) -> asked.toldSign(k, l, n, g, 0));
        }
    }

    private static void refused(String what, Question question) {
        for (int number : new int[] {0, -1, Integer.MIN_VALUE}) {
            for (int far : FAR) {
                refusedPlace(what, question, number, far, far, far);
            }
            refusedPlace(what, question, number, 10, 6, 3);
        }
        CHECK.refused(what + " of -1", ARGUMENT, () -> question.answer(9, 5, -1, 2));
        CHECK.refused(what + " of the lowest", ARGUMENT, () -> question.answer(0, 0, Integer.MIN_VALUE, 0));
    }

    private static void refusedPlace(String what, Question question, int number, int key, int language, int gender) {
        CHECK.refused(what + ", key " + key, INDEX, () -> question.answer(key, 0, number, 0));
        CHECK.refused(what + ", language " + language, INDEX, () -> question.answer(0, language, number, 0));
        CHECK.refused(what + ", gender " + gender, INDEX, () -> question.answer(0, 0, number, gender));
    }
}
