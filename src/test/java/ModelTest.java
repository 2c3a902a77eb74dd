/** Long runs of calls of all kinds, each answer compared with the model's. */
public final class ModelTest {
    private static final int RUNS = 400;
    private static final int CALLS_OF_AN_OBJECT = 512;
    private static final int[] WRONG = {-1, 3, 6, 10, 101, Integer.MIN_VALUE, Integer.MAX_VALUE};
    private static final Check CHECK = new Check();

    private final PhraseCatalogue c = new PhraseCatalogue();
    private final Model m = new Model();
    /** The numbers of a run come from a counted series, so that each run is the same every time. */
    private long series;
    private final int keys;
    private final int places;
    private final int words;

    private ModelTest(int run) {
        series = run * 7919L + 17;
        keys = run % 4 == 0 ? 10 : 1 + run % 3;
        places = run % 5 == 0 ? 3 : 1 + run % 2;
        words = run % 3 == 0 ? 99 : 3;
    }

    public static void main(String[] args) {
        for (int run = 0; run < RUNS; run++) {
            ModelTest test = new ModelTest(run);
            for (int call = 0; call < CALLS_OF_AN_OBJECT; call++) {
                test.step("run " + run + ", call " + call + ": ");
            }
        }
        CHECK.end();
    }

    private int next(int bound) {
        series = series * 6364136223846793005L + 1442695040888963407L;
        return (int) ((series >>> 33) % bound);
    }

    /** Mostly a good value, at times a wrong one. */
    private int value(int low, int high) {
        return next(60) == 0 ? WRONG[next(WRONG.length)] : low + next(high - low + 1);
    }

    private int number() {
        return next(8) == 0 ? next(103) : value(0, 4);
    }

    private int limit() {
        return next(10) == 0 ? 98 + next(5) : value(0, 4);
    }

    private int aSign() {
        return next(4) == 0 ? 101 + next(words == 3 ? 2 : 4) : value(1, words);
    }

    private void step(String at) {
        int kind = next(100);
        if (kind < 30) {
            int sign = aSign();
            both(at + "sign(" + sign + ")", () -> m.sign(sign), () -> c.sign(sign));
        } else if (kind < 55) {
            change(at, kind);
        } else if (kind < 60) {
            languages(at, kind);
        } else {
            ask(at, value(0, keys - 1), value(0, 5), value(0, places - 1), value(0, places - 1));
        }
    }

    private void both(String what, Check.Call due, Check.Call call) {
        CHECK.compare(what, Check.outcome(due), Check.outcome(call));
    }

    private void change(String at, int turn) {
        int key = value(0, keys - 1);
        int language = next(2) == 0 ? 0 : value(0, 5);
        int kind = value(0, places - 1);
        int gender = value(0, places - 1);
        String place = "(" + key + ", " + language + ", " + kind + ", " + gender;
        if (turn < 51) {
            boolean mayLack = next(2) == 0;
            both(at + "set" + place + ", " + mayLack + ")", () -> m.set(key, language, kind, gender, mayLack),
                () -> c.set(key, language, kind, gender, mayLack));
        } else {
            both(at + "remove" + place + ")", () -> m.remove(key, language, kind, gender),
                () -> c.remove(key, language, kind, gender));
        }
    }

    private void languages(String at, int turn) {
        int language = value(0, 5);
        if (turn < 58) {
            int other = value(0, 5);
            both(at + "setFallback(" + language + ", " + other + ")", () -> m.setFallback(language, other),
                () -> c.setFallback(language, other));
        } else {
            int ones = limit();
            int few = limit();
            both(at + "setNumbers(" + language + ", " + ones + ", " + few + ")", () -> m.setNumbers(language, ones, few),
                () -> Fill.numbers(c, language, ones, few));
        }
    }

    private void ask(String at, int key, int language, int kind, int gender) {
        int number = number();
        int sign = value(0, 4);
        String place = "(" + key + ", " + language + ", " + kind + ", " + gender + ")";
        String question = "(" + key + ", " + language + ", " + number + ", " + gender + ")";
        switch (next(14)) {
            case 0 -> both(at + "draft", () -> m.draft(), () -> c.draft());
            case 1 -> both(at + "kindOf" + question, () -> m.kindOf(language, number), () -> c.kindOf(language, number));
            case 2 -> both(at + "forms" + place, () -> m.forms(key, language), () -> c.forms(key, language));
            case 3 -> both(at + "version" + place, () -> m.version(key), () -> c.version(key));
            case 4 -> both(at + "staleBy" + place, () -> m.staleBy(key, language), () -> c.staleBy(key, language));
            case 5 -> both(at + "missing" + place, () -> m.missing(language), () -> c.missing(language));
            case 6 -> both(at + "fits" + place, () -> m.fits(key, language, kind, gender),
                () -> c.fits(key, language, kind, gender));
            case 7 -> both(at + "toldBy" + question, () -> m.toldBy(key, language, number, gender),
                () -> c.toldBy(key, language, number, gender));
            case 8 -> both(at + "toldByLooking" + question, () -> m.toldBy(key, language, number, gender),
                () -> c.toldByLooking(key, language, number, gender));
            case 9 -> both(at + "toldForm" + question, () -> m.toldForm(key, language, number, gender),
                () -> c.toldForm(key, language, number, gender));
            case 10 -> both(at + "toldSign" + question + " at " + sign, () -> m.toldSign(key, language, number, gender, sign),
                () -> c.toldSign(key, language, number, gender, sign));
            case 11 -> both(at + "pairs", () -> m.pairs(), () -> c.pairs());
            case 12 -> both(at + "nearDistance" + place, () -> m.nearDistance(key, language, kind, gender),
                () -> c.nearDistance(key, language, kind, gender));
            default -> both(at + "nearSign" + place + " at " + sign, () -> m.nearSign(key, language, kind, gender, sign),
                () -> c.nearSign(key, language, kind, gender, sign));
        }
    }
}
