/** Calls of all kinds with ordinary arguments, edges and wrong ones, in a series that is the same every time. */
final class Steps {
    private static final int[] NO_SIGNS = {0, 100, 105, -1, Edges.LEAST, Edges.GREATEST};
    private static final int[] NO_LIMITS = {-1, 101, Edges.LEAST, Edges.GREATEST};
    private static final int[] FAR_PLACES = {-1, 7, 8, Edges.LEAST, Edges.GREATEST};
    private static final int[] FAR_NUMBERS = {-1, Edges.LEAST, 100, 101, Edges.GREATEST};

    private long series;
    private final int keys;
    private final int threes;
    private final int words;
    private final int signsInAHundred;
    private int farInAThousand = 17;

    /** Some runs have few keys, classes, genders and words, so that their calls meet; some fill drafts more than they set. */
    Steps(int run) {
        series = run * 7919L + 17;
        keys = run % 4 == 0 ? 10 : 1 + run % 3;
        threes = run % 5 == 0 ? 3 : 1 + run % 2;
        words = run % 3 == 0 ? 99 : 3;
        signsInAHundred = run % 7 == 0 ? 45 : 30;
    }

    /** From here on one argument of so many in a thousand is wrong, or at its edge. */
    void farInAThousand(int many) {
        farInAThousand = many;
    }

    private int next(int bound) {
        series = series * 6364136223846793005L + 1442695040888963407L;
        return (int) ((series >>> 33) % bound);
    }

    private int value(int low, int high, int[] far) {
        return next(1000) < farInAThousand ? far[next(far.length)] : low + next(high - low + 1);
    }

    private int key() {
        return value(0, keys - 1, Edges.NO_KEYS);
    }

    private int language() {
        return value(0, 5, Edges.NO_LANGUAGES);
    }

    private int three() {
        return value(0, threes - 1, Edges.NO_THREES);
    }

    private int number() {
        return next(8) == 0 ? next(103) : value(0, 4, FAR_NUMBERS);
    }

    private int limit() {
        return next(10) == 0 ? 98 + next(3) : value(0, 4, NO_LIMITS);
    }

    private int aSign() {
        return next(4) == 0 ? 101 + next(words == 3 ? 2 : 4) : value(1, words, NO_SIGNS);
    }

    /** A call of any method; it changes something as often as it asks. */
    Step any() {
        int turn = next(100);
        if (turn < signsInAHundred) {
            return ofPromise(4);
        }
        if (turn < 55) {
            return ofPromise(turn < 51 ? 5 : 6);
        }
        if (turn < 60) {
            return ofPromise(turn < 58 ? 2 : 3);
        }
        return question();
    }

    Step question() {
        return ofPromise(7 + next(14));
    }

    /** A call of the method that a promise, 2 to 20, tells of. */
    Step ofPromise(int promise) {
        if (promise <= 6) {
            return change(promise);
        }
        return promise >= 14 && promise <= 17 ? told(promise) : thereOrPast(promise);
    }

    private Step change(int promise) {
        int language = promise >= 5 && next(2) == 0 ? 0 : language();
        switch (promise) {
            case 2: {
                int other = language();
                return new Step("setFallback(" + language + ", " + other + ")", m -> m.setFallback(language, other),
                    c -> c.setFallback(language, other));
            }
            case 3: {
                int ones = limit();
                int few = limit();
                return new Step("setNumbers(" + language + ", " + ones + ", " + few + ")",
                    m -> m.setNumbers(language, ones, few), c -> Fill.numbers(c, language, ones, few));
            }
            case 4: {
                int sign = aSign();
                return new Step("sign(" + sign + ")", m -> m.sign(sign), c -> c.sign(sign));
            }
            default:
                return changeOfForm(promise, key(), language, three(), three());
        }
    }

    private Step changeOfForm(int promise, int key, int language, int kind, int gender) {
        String place = key + ", " + language + ", " + kind + ", " + gender;
        boolean mayLack = next(2) == 0;
        if (promise == 5) {
            return new Step("set(" + place + ", " + mayLack + ")", m -> m.set(key, language, kind, gender, mayLack),
                c -> c.set(key, language, kind, gender, mayLack));
        }
        return new Step("remove(" + place + ")", m -> m.remove(key, language, kind, gender),
            c -> c.remove(key, language, kind, gender));
    }

    private Step told(int promise) {
        int key = key();
        int language = language();
        int number = number();
        int gender = three();
        int place = value(0, 4, FAR_PLACES);
        String asked = "(" + key + ", " + language + ", " + number + ", " + gender;
        return switch (promise) {
            case 14 -> new Step("toldBy" + asked + ")", m -> m.toldBy(key, language, number, gender),
                c -> c.toldBy(key, language, number, gender));
            case 15 -> new Step("toldByLooking" + asked + ")", m -> m.toldBy(key, language, number, gender),
                c -> c.toldByLooking(key, language, number, gender));
            case 16 -> new Step("toldForm" + asked + ")", m -> m.toldForm(key, language, number, gender),
                c -> c.toldForm(key, language, number, gender));
            default -> new Step("toldSign" + asked + ", " + place + ")", m -> m.toldSign(key, language, number, gender, place),
                c -> c.toldSign(key, language, number, gender, place));
        };
    }

    private Step thereOrPast(int promise) {
        int key = key();
        int language = language();
        int kind = three();
        int gender = three();
        int number = number();
        int place = value(0, 4, FAR_PLACES);
        String text = "(" + key + ", " + language;
        String form = text + ", " + kind + ", " + gender;
        return switch (promise) {
            case 7 -> new Step("draft()", m -> m.draft(), c -> c.draft());
            case 8 -> new Step("kindOf(" + language + ", " + number + ")", m -> m.kindOf(language, number),
                c -> c.kindOf(language, number));
            case 9 -> new Step("forms" + text + ")", m -> m.forms(key, language), c -> c.forms(key, language));
            case 10 -> new Step("version(" + key + ")", m -> m.version(key), c -> c.version(key));
            case 11 -> new Step("staleBy" + text + ")", m -> m.staleBy(key, language), c -> c.staleBy(key, language));
            case 12 -> new Step("missing(" + language + ")", m -> m.missing(language), c -> c.missing(language));
            case 13 -> new Step("fits" + form + ")", m -> m.fits(key, language, kind, gender),
                c -> c.fits(key, language, kind, gender));
            case 18 -> new Step("pairs()", m -> m.pairs(), c -> c.pairs());
            case 19 -> new Step("nearDistance" + form + ")", m -> m.nearDistance(key, language, kind, gender),
                c -> c.nearDistance(key, language, kind, gender));
            default -> new Step("nearSign" + form + ", " + place + ")", m -> m.nearSign(key, language, kind, gender, place),
                c -> c.nearSign(key, language, kind, gender, place));
        };
    }
}
