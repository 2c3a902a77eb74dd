import java.util.List;

/** The edges of promises 1 to 3 and 8: a new object, setFallback, setNumbers, kindOf. */
final class EdgesOfLanguages {
    private static final int[] NO_LIMITS = {-1, 101, Edges.LEAST, Edges.GREATEST};

    private final Edges edges;

    EdgesOfLanguages(Edges edges) {
        this.edges = edges;
    }

    void run() {
        promise1NoTexts();
        promise1AllFallBackOnTheSource();
        promise2SetsOnWhichLanguage();
        promise2Languages();
        promise2ReturnsTheLanguageBefore();
        promise2NoSuchLanguageOrTheSource();
        promise2TheChainWouldGoRound();
        promise3SetsTheNumbers();
        promise3OnesAndFew();
        promise3NoSuchLanguage();
        promise3OnesOrFewOutOfRange();
        promise8TheNumberClass();
        promise8NoSuchLanguage();
        promise8NumberBelow0();
    }

    private void promise1NoTexts() {
        edges.of("Promise 1", "No texts;");
        for (int key = 0; key < 10; key++) {
            noTextsOf(new PhraseCatalogue(), key);
        }
        PhraseCatalogue filled = new PhraseCatalogue();
        State.FULL.reach(filled);
        PhraseCatalogue c = new PhraseCatalogue();
        noTextsOf(c, 9);
        edges.due("draft beside a full object", 0, () -> c.draft());
        edges.due("pairs beside a full object", 0, () -> c.pairs());
    }

    private void noTextsOf(PhraseCatalogue c, int k) {
        edges.due("version", 0, () -> c.version(k));
        for (int language = 0; language < 6; language++) {
            int l = language;
            edges.due("missing", 0, () -> c.missing(l));
            edges.due("forms", 0, () -> c.forms(k, l));
            edges.due("staleBy", -1, () -> c.staleBy(k, l));
            for (int form = 0; form < 9; form++) {
                int kind = form / 3;
                int gender = form % 3;
                edges.due("fits", false, () -> c.fits(k, l, kind, gender));
                edges.due("nearDistance", -1, () -> c.nearDistance(k, l, kind, gender));
                edges.due("nearSign", 0, () -> c.nearSign(k, l, kind, gender, 0));
            }
            edges.told(c, k, l, l, l % 3, -1, -1);
        }
    }

    private void promise1AllFallBackOnTheSource() {
        edges.of("Promise 1", "all languages fall back on the source");
        PhraseCatalogue c = new PhraseCatalogue();
        Fill.put(c, 0, 0, 2, 0, 1);
        for (int language = 1; language < 6; language++) {
            int l = language;
            edges.told(c, 0, l, 0, 0, 0, 6);
            edges.due("the fallback of " + l, 0, () -> c.setFallback(l, 0));
        }
    }

    private void promise2SetsOnWhichLanguage() {
        edges.of("Promise 2", "Sets on which language another one falls back.", "`other`: the language on which it falls back");
        for (int language = 1; language < 6; language++) {
            for (int other = 0; other < 6; other++) {
                if (other != language) {
                    setsFallback(language, other);
                }
            }
        }
    }

    private void setsFallback(int language, int other) {
        PhraseCatalogue c = new PhraseCatalogue();
        for (int each = 0; each < 6; each++) {
            if (each != language) {
                Fill.put(c, 0, each, 2, 0, 1);
            }
        }
        edges.due(language + " on " + other, 0, () -> c.setFallback(language, other));
        for (int each = 0; each < 6; each++) {
            edges.told(c, 0, each, 0, 0, each == language ? other : each, 6);
        }
        edges.due(language + " on " + other + " again", other, () -> c.setFallback(language, other));
    }

    private void promise2Languages() {
        edges.of("Promise 2", "`language`: 1 to 5");
        PhraseCatalogue c = new PhraseCatalogue();
        edges.due("the least", 0, () -> c.setFallback(1, 5));
        edges.refused("the next below", Edges.INDEX, () -> c.setFallback(0, 5));
        edges.refused("the least int", Edges.INDEX, () -> c.setFallback(Edges.LEAST, 5));
        PhraseCatalogue d = new PhraseCatalogue();
        edges.due("the greatest", 0, () -> d.setFallback(5, 1));
        edges.refused("the next above", Edges.INDEX, () -> d.setFallback(6, 1));
        edges.refused("the greatest int", Edges.INDEX, () -> d.setFallback(Edges.GREATEST, 1));
    }

    private void promise2ReturnsTheLanguageBefore() {
        edges.of("Promise 2", "Returns the language before.");
        PhraseCatalogue c = new PhraseCatalogue();
        int[] others = {5, 5, 0, 0, 2, 4, 3, 5, 0};
        int before = 0;
        for (int other : others) {
            edges.due("on " + other, before, () -> c.setFallback(1, other));
            before = other;
        }
        c.setFallback(1, 5);
        edges.refused("on itself", Edges.ARGUMENT, () -> c.setFallback(1, 1));
        edges.due("after a refused one", 5, () -> c.setFallback(1, 2));
    }

    private void promise2NoSuchLanguageOrTheSource() {
        edges.of("Promise 2", "if there is no such language, or language is 0");
        for (int none : Edges.NO_LANGUAGES) {
            edges.refusedInAll(none + " on 0", Edges.INDEX, c -> c.setFallback(none, 0));
            edges.refusedInAll(none + " on 5", Edges.INDEX, c -> c.setFallback(none, 5));
            edges.refusedInAll("1 on " + none, Edges.INDEX, c -> c.setFallback(1, none));
            edges.refusedInAll("5 on " + none, Edges.INDEX, c -> c.setFallback(5, none));
            edges.refusedInAll("0 on " + none, Edges.INDEX, c -> c.setFallback(0, none));
            edges.refusedInAll(none + " on itself, which goes round", Edges.INDEX, c -> c.setFallback(none, none));
        }
        for (int other = 0; other < 6; other++) {
            int o = other;
            edges.refusedInAll("0 on " + o + ", which goes round", Edges.INDEX, c -> c.setFallback(0, o));
        }
    }

    private void promise2TheChainWouldGoRound() {
        edges.of("Promise 2", "if the chain would go round");
        for (int language = 1; language < 6; language++) {
            int l = language;
            edges.refusedInAll(l + " on itself", Edges.ARGUMENT, c -> c.setFallback(l, l));
            for (int other = 1; other <= language; other++) {
                int o = other;
                edges.refusedIn(List.of(State.FULL), l + " on " + o, Edges.ARGUMENT, c -> c.setFallback(l, o));
            }
        }
        edges.refusedIn(List.of(State.FILLED), "1 on 2, back at once", Edges.ARGUMENT, c -> c.setFallback(1, 2));
        edges.refusedIn(List.of(State.FILLED), "1 on 3, back by one", Edges.ARGUMENT, c -> c.setFallback(1, 3));
        PhraseCatalogue c = new PhraseCatalogue();
        State.FULL.reach(c);
        edges.due("3 on the source cuts the chain", 4, () -> c.setFallback(3, 0));
        edges.due("the chain goes on by its head", 0, () -> c.setFallback(5, 1));
        edges.refused("3 on 4 would close it", Edges.ARGUMENT, () -> c.setFallback(3, 4));
        edges.refused("2 on 4, whose chain has 2", Edges.ARGUMENT, () -> c.setFallback(2, 4));
        edges.due("4 out of it", 5, () -> c.setFallback(4, 0));
        edges.due("3 on 4", 0, () -> c.setFallback(3, 4));
    }

    private void promise3SetsTheNumbers() {
        edges.of("Promise 3", "Sets the numbers of a language.", "`language`: the language");
        for (int language = 0; language < 6; language++) {
            PhraseCatalogue c = new PhraseCatalogue();
            int l = language;
            edges.due("the numbers of " + l, null, () -> Fill.numbers(c, l, 3, 4));
            for (int other = 0; other < 6; other++) {
                int o = other;
                edges.due("3 in " + o, o == l ? 0 : 2, () -> c.kindOf(o, 3));
                edges.due("4 in " + o, o == l ? 1 : 2, () -> c.kindOf(o, 4));
                edges.due("1 in " + o, 0, () -> c.kindOf(o, 1));
            }
        }
    }

    private void promise3OnesAndFew() {
        edges.of("Promise 3", "`ones`: 0 to 100", "`few`: 0 to 100");
        int[] limits = {0, 1, 99, 100};
        for (int ones : limits) {
            for (int few : limits) {
                PhraseCatalogue c = new PhraseCatalogue();
                edges.due("ones " + ones + ", few " + few, null, () -> Fill.numbers(c, 5, ones, few));
                for (int number : new int[] {1, 2, 98, 99, 100, 101}) {
                    int due = number <= ones ? 0 : number <= few ? 1 : 2;
                    edges.due(number + " by " + ones + " and " + few, due, () -> c.kindOf(5, number));
                }
            }
        }
    }

    private void promise3NoSuchLanguage() {
        edges.of("Promise 3", "if there is no such language");
        for (int none : Edges.NO_LANGUAGES) {
            edges.refusedInAll("the numbers of " + none, Edges.INDEX, c -> Fill.numbers(c, none, 50, 60));
            for (int wrong : NO_LIMITS) {
                edges.refusedInAll("ones " + wrong + " of " + none, Edges.INDEX, c -> Fill.numbers(c, none, wrong, 60));
                edges.refusedInAll("few " + wrong + " of " + none, Edges.INDEX, c -> Fill.numbers(c, none, 50, wrong));
            }
        }
    }

    private void promise3OnesOrFewOutOfRange() {
        edges.of("Promise 3", "if ones or few is out of range");
        for (int wrong : NO_LIMITS) {
            for (int right : new int[] {0, 100}) {
                edges.refusedInAll("ones " + wrong, Edges.ARGUMENT, c -> Fill.numbers(c, 0, wrong, right));
                edges.refusedInAll("few " + wrong, Edges.ARGUMENT, c -> Fill.numbers(c, 5, right, wrong));
            }
            edges.refusedInAll("both " + wrong, Edges.ARGUMENT, c -> Fill.numbers(c, 1, wrong, wrong));
        }
        PhraseCatalogue c = new PhraseCatalogue();
        c.setNumbers(2, 3, 6);
        edges.refused("a good ones with a wrong few", Edges.ARGUMENT, () -> Fill.numbers(c, 2, 4, 101));
        edges.due("4 is no one", 1, () -> c.kindOf(2, 4));
        edges.refused("a good few with a wrong ones", Edges.ARGUMENT, () -> Fill.numbers(c, 2, 101, 7));
        edges.due("7 is not few", 2, () -> c.kindOf(2, 7));
    }

    private void promise8TheNumberClass() {
        edges.of("Promise 8", "Returns the number class of a number in a language.", "Returns 0 to 2.",
            "`language`: the language", "`number`: 0 or more");
        PhraseCatalogue c = new PhraseCatalogue();
        c.setNumbers(0, 1, 2);
        c.setNumbers(5, 99, 100);
        int[] numbers = {0, 1, 2, 3, 98, 99, 100, 101, Edges.GREATEST};
        int[] inTheLeast = {2, 0, 1, 2, 2, 2, 2, 2, 2};
        int[] inTheGreatest = {2, 0, 0, 0, 0, 0, 1, 2, 2};
        for (int i = 0; i < numbers.length; i++) {
            int number = numbers[i];
            edges.due(number + " in 0", inTheLeast[i], () -> c.kindOf(0, number));
            edges.due(number + " in 5", inTheGreatest[i], () -> c.kindOf(5, number));
        }
    }

    private void promise8NoSuchLanguage() {
        edges.of("Promise 8", "if there is no such language");
        for (int none : Edges.NO_LANGUAGES) {
            for (int number : new int[] {0, 1, Edges.GREATEST, -1, Edges.LEAST}) {
                edges.refusedInAll(number + " in " + none, Edges.INDEX, c -> c.kindOf(none, number));
            }
        }
    }

    private void promise8NumberBelow0() {
        edges.of("Promise 8", "if number is below 0");
        for (int number : Edges.NO_NUMBERS) {
            edges.refusedInAll(number + " in 0", Edges.ARGUMENT, c -> c.kindOf(0, number));
            edges.refusedInAll(number + " in 5", Edges.ARGUMENT, c -> c.kindOf(5, number));
        }
    }
}
