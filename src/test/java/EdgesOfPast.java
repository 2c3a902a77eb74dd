import java.util.Arrays;

/** The edges of promises 18 to 20: pairs, nearDistance, nearSign. */
final class EdgesOfPast {
    private static final String NO_SUCH = "if there is no such key, language, class or gender";

    private final Edges edges;

    EdgesOfPast(Edges edges) {
        this.edges = edges;
    }

    void run() {
        promise18HowManyPairs();
        promise19TheDistance();
        promise19None();
        promise19TheSourceDoesNotHaveTheForm();
        promise19NoSuch();
        promise20ASign();
        promise20NotSoMany();
        promise20NoNearOne();
        promise20NoSuch();
        promise20PlaceBelow0();
    }

    private void promise18HowManyPairs() {
        edges.of("Promise 18", "Returns how many pairs are kept.");
        PhraseCatalogue c = new PhraseCatalogue();
        edges.due("none", 0, () -> c.pairs());
        Fill.put(c, 9, 0, 2, 2, 1);
        edges.due("a first form", 0, () -> c.pairs());
        Fill.put(c, 9, 0, 2, 2, 1);
        edges.due("an old form without a translation", 0, () -> c.pairs());
        Fill.put(c, 9, 5, 2, 2, 1);
        for (int change = 1; change <= 25; change++) {
            int due = Math.min(change, 20);
            Fill.put(c, 9, 0, 2, 2, 1);
            edges.due("pairs", due, () -> c.pairs());
        }
        c.remove(9, 0, 2, 2);
        edges.due("pairs", 20, () -> c.pairs());
        c.remove(9, 5, 2, 2);
        edges.due("they stay without the texts", 20, () -> c.pairs());
    }

    /** One pair of (0, 5) whose old form is changed into the form of a place that is asked. */
    private static PhraseCatalogue changed(int[] old, int[] form, int key, int kind, int gender) {
        PhraseCatalogue c = new PhraseCatalogue();
        Fill.put(c, 0, 0, 0, 0, old);
        Fill.put(c, 0, 5, 0, 0, 61, 62, 63);
        c.remove(0, 0, 0, 0);
        Fill.put(c, key, 0, kind, gender, form);
        return c;
    }

    private static int[] row(int... signs) {
        return signs;
    }

    private void promise19TheDistance() {
        edges.of("Promise 19", "Returns the distance of the near one.", "Returns the distance;");
        for (int key : new int[] {0, 9}) {
            for (int form = 0; form < 9; form++) {
                int kind = form / 3;
                int gender = form % 3;
                PhraseCatalogue c = changed(row(1, 2), row(1, 3), key, kind, gender);
                edges.due("of " + key + ", " + kind + ", " + gender, 1, () -> c.nearDistance(key, 5, kind, gender));
            }
        }
        PhraseCatalogue least = changed(row(1), row(1), 0, 0, 0);
        edges.due("the least", 0, () -> least.nearDistance(0, 5, 0, 0));
        PhraseCatalogue greatest = changed(row(5, 6, 7, 8), row(1, 2, 3, 4, 5, 6, 7, 8), 9, 2, 2);
        edges.due("the greatest", 4, () -> greatest.nearDistance(9, 5, 2, 2));
    }

    private void promise19None() {
        edges.of("Promise 19", "-1 if there is none");
        PhraseCatalogue empty = new PhraseCatalogue();
        Fill.put(empty, 0, 0, 0, 0, 1, 2);
        edges.due("an empty past", -1, () -> empty.nearDistance(0, 5, 0, 0));
        PhraseCatalogue c = changed(row(1, 2), row(3, 4), 0, 0, 0);
        edges.due("too far", -1, () -> c.nearDistance(0, 5, 0, 0));
        Fill.put(c, 0, 0, 0, 0, 1, 4);
        edges.due("near enough", 1, () -> c.nearDistance(0, 5, 0, 0));
        for (int language = 0; language < 5; language++) {
            int l = language;
            edges.due("of the language " + l, -1, () -> c.nearDistance(0, l, 0, 0));
        }
    }

    private void promise19TheSourceDoesNotHaveTheForm() {
        edges.of("Promise 19", "or the source text does not have the form");
        PhraseCatalogue c = changed(row(1, 2), row(1, 2), 9, 2, 2);
        edges.due("has it", 0, () -> c.nearDistance(9, 5, 2, 2));
        edges.due("another gender", -1, () -> c.nearDistance(9, 5, 2, 1));
        edges.due("another class", -1, () -> c.nearDistance(9, 5, 1, 2));
        edges.due("another key", -1, () -> c.nearDistance(8, 5, 2, 2));
        edges.due("the one taken away", -1, () -> c.nearDistance(0, 5, 0, 0));
        edges.due("the translation has it, the source has not", true, () -> c.fits(0, 5, 0, 0));
        c.remove(9, 0, 2, 2);
        edges.due("has it no more", -1, () -> c.nearDistance(9, 5, 2, 2));
    }

    private void promise19NoSuch() {
        edges.of("Promise 19", NO_SUCH);
        edges.refusesNoPlaces("nearDistance", (c, key, language, kind, gender) -> c.nearDistance(key, language, kind, gender));
    }

    private void promise20ASign() {
        edges.of("Promise 20", "Returns a sign of the translation of the near one.", "Returns the sign;",
            "`place`: 0 for the first one");
        int[] signs = {104, 1, 99, 101, 2, 3, 4, 103};
        for (int many = 1; many <= 8; many++) {
            PhraseCatalogue c = new PhraseCatalogue();
            Fill.put(c, 9, 0, 2, 2, 1);
            Fill.put(c, 9, 5, 2, 2, true, Arrays.copyOf(signs, many));
            Fill.put(c, 9, 0, 2, 2, 1);
            Fill.put(c, 9, 5, 2, 2, 7, 7, 7, 7, 7, 7, 7, 7);
            for (int place = 0; place < 9; place++) {
                int at = place;
                edges.due("of " + many + " at " + at, at < many ? signs[at] : 0, () -> c.nearSign(9, 5, 2, 2, at));
            }
        }
    }

    private void promise20NotSoMany() {
        edges.of("Promise 20", "0 if it does not have so many");
        PhraseCatalogue c = changed(row(1, 2), row(1, 2), 0, 0, 0);
        edges.due("the last one", 63, () -> c.nearSign(0, 5, 0, 0, 2));
        edges.due("past the last one", 0, () -> c.nearSign(0, 5, 0, 0, 3));
        edges.due("past any last one", 0, () -> c.nearSign(0, 5, 0, 0, 8));
        edges.due("the greatest place", 0, () -> c.nearSign(0, 5, 0, 0, Edges.GREATEST));
    }

    private void promise20NoNearOne() {
        edges.of("Promise 20", "or there is no near one.");
        PhraseCatalogue c = new PhraseCatalogue();
        edges.due("a new one", 0, () -> c.nearSign(0, 0, 0, 0, 0));
        edges.due("a new one", 0, () -> c.nearSign(9, 5, 2, 2, Edges.GREATEST));
        PhraseCatalogue far = changed(row(1, 2), row(3, 4), 9, 2, 2);
        edges.due("too far", 0, () -> far.nearSign(9, 5, 2, 2, 0));
        edges.due("the source has no such form", 0, () -> far.nearSign(0, 5, 0, 0, 0));
        PhraseCatalogue near = changed(row(1, 2), row(1, 3), 9, 2, 2);
        edges.due("near", 61, () -> near.nearSign(9, 5, 2, 2, 0));
        edges.due("of another language", 0, () -> near.nearSign(9, 4, 2, 2, 0));
        edges.due("of the source", 0, () -> near.nearSign(9, 0, 2, 2, 0));
    }

    private void promise20NoSuch() {
        edges.of("Promise 20", NO_SUCH);
        edges.refusesNoPlaces("nearSign", (c, key, language, kind, gender) -> c.nearSign(key, language, kind, gender, 0));
        edges.refusesNoPlaces("nearSign at -1", (c, key, language, kind, gender) -> c.nearSign(key, language, kind, gender, -1));
    }

    private void promise20PlaceBelow0() {
        edges.of("Promise 20", "or place is below 0");
        for (int place : new int[] {-1, Edges.LEAST}) {
            edges.refusedInAll("nearSign at " + place, Edges.INDEX, c -> c.nearSign(0, 0, 0, 0, place));
            edges.refusedInAll("nearSign at " + place, Edges.INDEX, c -> c.nearSign(0, 5, 0, 0, place));
            edges.refusedInAll("nearSign at " + place, Edges.INDEX, c -> c.nearSign(9, 5, 2, 2, place));
        }
    }
}
