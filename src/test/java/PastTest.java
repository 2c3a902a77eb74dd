/** Promises 18 to 20: pairs, nearDistance, nearSign. */
public final class PastTest {
    private static final Class<IndexOutOfBoundsException> INDEX = IndexOutOfBoundsException.class;
    private static final int[] FAR = {-1, Integer.MIN_VALUE, Integer.MAX_VALUE};
    private static final Check CHECK = new Check();

    public static void main(String[] args) {
        pairsAreKept();
        pairsAreOfTheSameClassAndGender();
        pairsAreAsTheyWereThen();
        atMostTwentyPairs();
        theEarliestGoFirst();
        distances();
        atMostHalfOfTheSigns();
        theLatestOfSeveral();
        theNearestOfSeveral();
        nearOnesOfOtherPlaces();
        nothingIsNear();
        signsOfTheTranslation();
        questionsRefuse();
        CHECK.end();
    }

    private static void pairsAreKept() {
        PhraseCatalogue c = new PhraseCatalogue();
        Fill.put(c, 0, 1, 2, 0, 7);
        Fill.put(c, 0, 5, 2, 0, 8);
        Fill.put(c, 0, 0, 2, 0, 1);
        CHECK.due("a first form is no past", 0, () -> c.pairs());
        Fill.put(c, 0, 0, 2, 0, 1);
        CHECK.due("the same signs", 2, () -> c.pairs());
        Fill.put(c, 0, 1, 2, 0, 9);
        CHECK.due("a translation is no past", 2, () -> c.pairs());
        c.remove(0, 1, 2, 0);
        CHECK.due("a translation taken away is no past", 2, () -> c.pairs());
        c.remove(0, 0, 2, 0);
        CHECK.due("taken away", 3, () -> c.pairs());
        Fill.put(c, 0, 0, 2, 0, 1);
        CHECK.due("set again where none was", 3, () -> c.pairs());
        c.remove(0, 5, 2, 0);
        c.remove(0, 0, 2, 0);
        CHECK.due("without a translation", 3, () -> c.pairs());
    }

    private static void pairsAreOfTheSameClassAndGender() {
        PhraseCatalogue c = new PhraseCatalogue();
        Fill.put(c, 0, 0, 1, 2, 1);
        Fill.put(c, 0, 1, 1, 1, 7);
        Fill.put(c, 0, 2, 0, 2, 7);
        Fill.put(c, 1, 3, 1, 2, 7);
        Fill.put(c, 0, 0, 1, 2, 2);
        CHECK.due("none of these", 0, () -> c.pairs());
        Fill.put(c, 0, 4, 1, 2, 7);
        Fill.put(c, 0, 0, 1, 2, 3);
        CHECK.due("this one", 1, () -> c.pairs());
    }

    private static void pairsAreAsTheyWereThen() {
        PhraseCatalogue c = new PhraseCatalogue();
        Fill.put(c, 0, 0, 2, 0, 1, 2);
        Fill.put(c, 0, 1, 2, 0, 7);
        Fill.put(c, 0, 0, 2, 0, 1, 3);
        Fill.put(c, 0, 1, 2, 0, 8, 9);
        CHECK.due("the sign of then", 7, () -> c.nearSign(0, 1, 2, 0, 0));
        CHECK.due("no second sign", 0, () -> c.nearSign(0, 1, 2, 0, 1));
        c.remove(0, 1, 2, 0);
        CHECK.due("without the translation", 7, () -> c.nearSign(0, 1, 2, 0, 0));
        CHECK.due("the distance to the old form", 1, () -> c.nearDistance(0, 1, 2, 0));
    }

    private static void atMostTwentyPairs() {
        PhraseCatalogue c = new PhraseCatalogue();
        Fill.put(c, 0, 0, 0, 0, 1);
        for (int language = 1; language <= 3; language++) {
            Fill.put(c, 0, language, 0, 0, language);
        }
        for (int change = 1; change <= 9; change++) {
            Fill.put(c, 0, 0, 0, 0, 1);
            CHECK.due("pairs", Math.min(20, 3 * change), () -> c.pairs());
        }
        c.remove(0, 0, 0, 0);
        CHECK.due("pairs", 20, () -> c.pairs());
    }

    private static void theEarliestGoFirst() {
        PhraseCatalogue c = new PhraseCatalogue();
        Fill.put(c, 0, 0, 0, 0, 1, 2);
        for (int language = 1; language <= 3; language++) {
            Fill.put(c, 0, language, 0, 0, 10 + language);
        }
        for (int change = 0; change < 6; change++) {
            Fill.put(c, 0, 0, 0, 0, 50 + change, 60);
        }
        Fill.put(c, 1, 0, 0, 0, 1, 2);
        CHECK.due("eighteen", 18, () -> c.pairs());
        CHECK.due("the first is there", 11, () -> c.nearSign(1, 1, 0, 0, 0));
        Fill.put(c, 0, 0, 0, 0, 3, 60);
        CHECK.due("twenty", 20, () -> c.pairs());
        CHECK.due("the first is gone", -1, () -> c.nearDistance(1, 1, 0, 0));
        CHECK.due("the second is there", 0, () -> c.nearDistance(1, 2, 0, 0));
        CHECK.due("the third is there", 0, () -> c.nearDistance(1, 3, 0, 0));
        Fill.put(c, 2, 0, 1, 1, 4);
        Fill.put(c, 2, 1, 1, 1, 4);
        Fill.put(c, 2, 0, 1, 1, 4);
        CHECK.due("the second is gone", -1, () -> c.nearDistance(1, 2, 0, 0));
        CHECK.due("the third is there", 13, () -> c.nearSign(1, 3, 0, 0, 0));
    }

    /** The distance of an old form to a new one that has the same place. */
    private static int measured(int[] old, int[] form) {
        PhraseCatalogue c = new PhraseCatalogue();
        Fill.put(c, 0, 1, 2, 0, 7);
        Fill.put(c, 0, 0, 2, 0, old);
        Fill.put(c, 0, 0, 2, 0, form);
        return c.nearDistance(0, 1, 2, 0);
    }

    private static int[] row(int... signs) {
        return signs;
    }

    private static void distances() {
        int[] eight = row(1, 2, 3, 4, 5, 6, 7, 8);
        CHECK.due("the same", 0, () -> measured(eight, eight));
        CHECK.due("one replaced", 1, () -> measured(row(1, 2, 3, 4, 5, 6, 7, 101), eight));
        CHECK.due("the first taken out", 1, () -> measured(row(2, 3, 4, 5, 6, 7, 8), eight));
        CHECK.due("one put in", 1, () -> measured(eight, row(1, 2, 3, 5, 6, 7, 8)));
        CHECK.due("moved along", 2, () -> measured(row(8, 1, 2, 3, 4, 5, 6, 7), eight));
        CHECK.due("two changed places", 2, () -> measured(row(2, 1, 3, 4), row(1, 2, 3, 4)));
        CHECK.due("two replaced, two put in", 4, () -> measured(row(9, 2, 3, 4, 9, 6), eight));
        CHECK.due("half of it", 4, () -> measured(row(5, 6, 7, 8), eight));
        CHECK.due("the other half", 4, () -> measured(row(1, 2, 3, 4), eight));
        CHECK.due("too many put in", -1, () -> measured(row(1), row(1, 2, 3, 4)));
        CHECK.due("too many put in before it", -1, () -> measured(row(4), row(1, 2, 3, 4)));
        CHECK.due("as many put in as may be", 2, () -> measured(row(1, 4), row(1, 2, 3, 4)));
        CHECK.due("kitten and sitting", 3, () -> measured(row(11, 9, 20, 20, 5, 14), row(19, 9, 20, 20, 9, 14, 7)));
    }

    private static void atMostHalfOfTheSigns() {
        for (int length = 1; length <= 8; length++) {
            for (int changed = 0; changed <= length; changed++) {
                int[] form = new int[length];
                int[] old = new int[length];
                for (int i = 0; i < length; i++) {
                    form[i] = i + 1;
                    old[i] = i < changed ? 99 : i + 1;
                }
                int due = changed <= length / 2 ? changed : -1;
                CHECK.due(changed + " of " + length, due, () -> measured(old, form));
            }
        }
        CHECK.due("half of the new form, not of the old", -1, () -> measured(row(1, 2, 3, 4, 5, 6), row(1, 2, 3)));
        CHECK.due("half of the new form, not of the old", 3, () -> measured(row(1, 2, 3), row(1, 2, 3, 4, 5, 6)));
    }

    private static void theLatestOfSeveral() {
        PhraseCatalogue c = new PhraseCatalogue();
        Fill.put(c, 0, 0, 2, 0, 1, 2, 3, 4);
        Fill.put(c, 0, 1, 2, 0, 50);
        Fill.put(c, 0, 0, 2, 0, 1, 2, 3, 5);
        Fill.put(c, 0, 1, 2, 0, 51);
        Fill.put(c, 0, 0, 2, 0, 9, 9, 9, 9);
        Fill.put(c, 0, 1, 2, 0, 52);
        Fill.put(c, 0, 0, 2, 0, 1, 2, 3, 6);
        CHECK.due("as far as two of them", 1, () -> c.nearDistance(0, 1, 2, 0));
        CHECK.due("the later one of them", 51, () -> c.nearSign(0, 1, 2, 0, 0));
    }

    private static void theNearestOfSeveral() {
        PhraseCatalogue c = new PhraseCatalogue();
        Fill.put(c, 0, 0, 2, 0, 1, 2, 3, 4);
        Fill.put(c, 0, 1, 2, 0, 50);
        Fill.put(c, 0, 2, 2, 0, 60);
        Fill.put(c, 0, 0, 2, 0, 1, 2, 8, 9);
        Fill.put(c, 0, 1, 2, 0, 51);
        c.remove(0, 2, 2, 0);
        Fill.put(c, 0, 0, 2, 0, 1, 2, 3, 5);
        CHECK.due("the nearest", 1, () -> c.nearDistance(0, 1, 2, 0));
        CHECK.due("an earlier one", 50, () -> c.nearSign(0, 1, 2, 0, 0));
        CHECK.due("of another language", 60, () -> c.nearSign(0, 2, 2, 0, 0));
        Fill.put(c, 0, 0, 2, 0, 1, 2, 8, 7);
        CHECK.due("the other one", 51, () -> c.nearSign(0, 1, 2, 0, 0));
        CHECK.due("of another language", 2, () -> c.nearDistance(0, 2, 2, 0));
    }

    private static void nearOnesOfOtherPlaces() {
        PhraseCatalogue c = new PhraseCatalogue();
        Fill.put(c, 0, 0, 2, 0, 1, 2);
        Fill.put(c, 0, 5, 2, 0, 50);
        c.remove(0, 0, 2, 0);
        Fill.put(c, 9, 0, 0, 1, 1, 2);
        CHECK.due("another key, class and gender", 0, () -> c.nearDistance(9, 5, 0, 1));
        CHECK.due("another key, class and gender", 50, () -> c.nearSign(9, 5, 0, 1, 0));
        CHECK.due("the source text has no such form", -1, () -> c.nearDistance(0, 5, 2, 0));
        CHECK.due("the source text has no such form", 0, () -> c.nearSign(0, 5, 2, 0, 0));
    }

    private static void nothingIsNear() {
        PhraseCatalogue c = new PhraseCatalogue();
        CHECK.due("empty", -1, () -> c.nearDistance(0, 1, 0, 0));
        CHECK.due("empty", 0, () -> c.nearSign(0, 1, 0, 0, 0));
        Fill.put(c, 0, 0, 0, 0, 1, 2);
        Fill.put(c, 0, 1, 0, 0, 1, 2);
        CHECK.due("no past", -1, () -> c.nearDistance(0, 1, 0, 0));
        Fill.put(c, 0, 0, 0, 0, 1, 2);
        CHECK.due("a past", 0, () -> c.nearDistance(0, 1, 0, 0));
        CHECK.due("not of the source", -1, () -> c.nearDistance(0, 0, 0, 0));
        CHECK.due("not of the source", 0, () -> c.nearSign(0, 0, 0, 0, 0));
        CHECK.due("not of another", -1, () -> c.nearDistance(0, 2, 0, 0));
        Fill.put(c, 0, 0, 0, 0, 3, 4);
        CHECK.due("too far", -1, () -> c.nearDistance(0, 1, 0, 0));
        CHECK.due("too far", 0, () -> c.nearSign(0, 1, 0, 0, 0));
    }

    private static void signsOfTheTranslation() {
        PhraseCatalogue c = new PhraseCatalogue();
        Fill.put(c, 0, 0, 0, 0, 1);
        Fill.put(c, 0, 1, 0, 0, 11, 12, 13, 14, 15, 16, 17, 104);
        Fill.put(c, 0, 2, 0, 0, 21);
        Fill.put(c, 0, 0, 0, 0, 1);
        for (int place = 0; place < 7; place++) {
            int at = place;
            CHECK.due("sign at " + at, 11 + at, () -> c.nearSign(0, 1, 0, 0, at));
        }
        CHECK.due("the eighth sign", 104, () -> c.nearSign(0, 1, 0, 0, 7));
        CHECK.due("no ninth sign", 0, () -> c.nearSign(0, 1, 0, 0, 8));
        CHECK.due("far past the end", 0, () -> c.nearSign(0, 1, 0, 0, Integer.MAX_VALUE));
        CHECK.due("the one sign", 21, () -> c.nearSign(0, 2, 0, 0, 0));
        CHECK.due("no second sign", 0, () -> c.nearSign(0, 2, 0, 0, 1));
        CHECK.refused("below 0", INDEX, () -> c.nearSign(0, 1, 0, 0, -1));
    }

    private static void questionsRefuse() {
        PhraseCatalogue c = new PhraseCatalogue();
        for (int far : FAR) {
            refusedPlace(c, far, far, far);
        }
        refusedPlace(c, 10, 6, 3);
        CHECK.refused("nearSign, place -1, nothing near", INDEX, () -> c.nearSign(0, 0, 0, 0, -1));
        CHECK.refused("nearSign, the lowest place", INDEX, () -> c.nearSign(0, 0, 0, 0, Integer.MIN_VALUE));
    }

    private static void refusedPlace(PhraseCatalogue c, int key, int language, int three) {
        CHECK.refused("nearDistance, key " + key, INDEX, () -> c.nearDistance(key, 0, 0, 0));
        CHECK.refused("nearDistance, language " + language, INDEX, () -> c.nearDistance(0, language, 0, 0));
        CHECK.refused("nearDistance, class " + three, INDEX, () -> c.nearDistance(0, 0, three, 0));
        CHECK.refused("nearDistance, gender " + three, INDEX, () -> c.nearDistance(0, 0, 0, three));
        CHECK.refused("nearSign, key " + key, INDEX, () -> c.nearSign(key, 0, 0, 0, 0));
        CHECK.refused("nearSign, language " + language, INDEX, () -> c.nearSign(0, language, 0, 0, 0));
        CHECK.refused("nearSign, class " + three, INDEX, () -> c.nearSign(0, 0, three, 0, 0));
        CHECK.refused("nearSign, gender " + three, INDEX, () -> c.nearSign(0, 0, 0, three, 0));
    }
}
