import java.util.List;

/** The edges that the sections "What it is" and "Terms" name, but for the past and what is told. */
final class EdgesOfTerms {
    private static final String TERMS = "Terms";

    private final Edges edges;

    EdgesOfTerms(Edges edges) {
        this.edges = edges;
    }

    void run() {
        atMost512Calls();
        languagesAre0To5();
        eachOtherLanguageFallsBackOnOne();
        theChainNeverGoesRound();
        keysAre0To9();
        aTextHasForms();
        aFormIsARowOf1To8Signs();
        lacksAndStrange();
        allowedToLack();
        onesAndFew();
        theClassOfANumber();
        fewNotAboveOnes();
        theVersionOfASourceText();
        staleByAsManyVersions();
        theLastFormTakenAway();
        anExceptionChangesNothing();
        theFirstOfSeveralExceptions();
        thereIsNoSuchOne();
        nothingFromHereOnChangesAnything();
    }

    /** The most changes that 512 calls can make, as many questions, and as many refused calls. */
    private void atMost512Calls() {
        edges.of("What it is", "An object is used for at most 512 calls after it has been made;");
        PhraseCatalogue changed = new PhraseCatalogue();
        for (int change = 0; change < 170; change++) {
            Fill.put(changed, 9, 0, 2, 2, 1);
            changed.remove(9, 0, 2, 2);
        }
        edges.due("the 511th call", 1, () -> changed.sign(1));
        edges.due("the 512th call", 341, () -> changed.set(9, 0, 2, 2, false));
        PhraseCatalogue stale = new PhraseCatalogue();
        Fill.put(stale, 9, 5, 2, 2, 1);
        for (int change = 0; change < 169; change++) {
            Fill.put(stale, 9, 0, 2, 2, 1);
            stale.remove(9, 0, 2, 2);
        }
        Fill.put(stale, 9, 0, 2, 2, 1);
        edges.due("the 512th call", 339, () -> stale.staleBy(9, 5));
        PhraseCatalogue asked = new PhraseCatalogue();
        State.FULL.reach(asked);
        for (int call = 0; call < 400; call++) {
            edges.due("near to the 512th call", 0, () -> asked.nearDistance(0, 5, 0, 0));
        }
        PhraseCatalogue refused = new PhraseCatalogue();
        for (int call = 0; call < 511; call++) {
            edges.refused("one of 511 calls", Edges.ARGUMENT, () -> refused.sign(0));
        }
        edges.due("the 512th call", 1, () -> refused.sign(1));
    }

    private void languagesAre0To5() {
        edges.of(TERMS, "Languages are 0 to 5; the language 0 is the source.");
        PhraseCatalogue c = new PhraseCatalogue();
        for (int language = 5; language >= 0; language--) {
            int l = language;
            edges.due("a form of " + l, l == 0 ? 1 : 0, () -> Fill.put(c, 0, l, 2, 0, 10 + l));
            edges.due("the version is the source's", l == 0 ? 1 : 0, () -> c.version(0));
        }
        for (int language = 0; language < 6; language++) {
            int l = language;
            edges.due("one form in " + l, 1, () -> c.forms(0, l));
            edges.due("its own", 10 + l, () -> c.toldSign(0, l, 0, 0, 0));
        }
        edges.refused("the next below", Edges.INDEX, () -> c.forms(0, -1));
        edges.refused("the next above", Edges.INDEX, () -> c.forms(0, 6));
        edges.refused("the least int", Edges.INDEX, () -> c.forms(0, Edges.LEAST));
        edges.refused("the greatest int", Edges.INDEX, () -> c.forms(0, Edges.GREATEST));
    }

    private void eachOtherLanguageFallsBackOnOne() {
        edges.of(TERMS, "Each other language falls back on one language, at first on the source;");
        PhraseCatalogue c = new PhraseCatalogue();
        edges.refused("the source on one", Edges.INDEX, () -> c.setFallback(0, 1));
        for (int language = 1; language < 6; language++) {
            int l = language;
            edges.due("the fallback of " + l, 0, () -> c.setFallback(l, 0));
        }
        c.setFallback(1, 5);
        c.setFallback(1, 4);
        Fill.put(c, 0, 5, 2, 0, 1);
        edges.told(c, 0, 1, 0, 0, -1, -1);
        Fill.put(c, 0, 4, 2, 0, 1);
        edges.told(c, 0, 1, 0, 0, 4, 6);
    }

    private void theChainNeverGoesRound() {
        edges.of(TERMS, "the chain of a language are it, the one on which it falls back, and so on up to the source; "
            + "it never goes round.");
        PhraseCatalogue c = new PhraseCatalogue();
        int[] chain = {3, 1, 5, 2, 4, 0};
        for (int i = 0; i < 5; i++) {
            int at = i;
            edges.due("one step more", 0, () -> c.setFallback(chain[at], chain[at + 1]));
        }
        for (int i = 0; i < 5; i++) {
            for (int j = 0; j <= i; j++) {
                int low = chain[i];
                int high = chain[j];
                edges.refused(low + " on " + high, Edges.ARGUMENT, () -> c.setFallback(low, high));
            }
        }
        for (int i = 5; i >= 0; i--) {
            Fill.put(c, 9, chain[i], 2, 0, 1);
            for (int j = 0; j < 6; j++) {
                edges.told(c, 9, chain[j], 0, 0, chain[Math.max(i, j)], 6);
            }
        }
    }

    private void keysAre0To9() {
        edges.of(TERMS, "Keys are 0 to 9.", "For each key and language there can be a text.");
        PhraseCatalogue c = new PhraseCatalogue();
        for (int key = 0; key < 10; key++) {
            for (int language = 0; language < 6; language++) {
                Fill.put(c, key, language, 2, 0, 1 + key * 6 + language);
            }
        }
        for (int key = 0; key < 10; key++) {
            for (int language = 0; language < 6; language++) {
                int k = key;
                int l = language;
                edges.due("the form of " + k + " in " + l, 1, () -> c.forms(k, l));
                edges.due("its sign", 1 + k * 6 + l, () -> c.toldSign(k, l, 0, 0, 0));
            }
        }
        edges.refused("the next below", Edges.INDEX, () -> c.version(-1));
        edges.refused("the next above", Edges.INDEX, () -> c.version(10));
        edges.refused("the least int", Edges.INDEX, () -> c.version(Edges.LEAST));
        edges.refused("the greatest int", Edges.INDEX, () -> c.version(Edges.GREATEST));
    }

    private void aTextHasForms() {
        edges.of(TERMS, "A text has forms: one for each number class, 0 to 2, and each gender, 0 to 2, perhaps not all of them.");
        for (int language : new int[] {0, 5}) {
            PhraseCatalogue c = new PhraseCatalogue();
            c.setNumbers(language, 1, 2);
            edges.due("no form", 0, () -> c.forms(9, language));
            for (int form = 0; form < 9; form++) {
                Fill.put(c, 9, language, form / 3, form % 3, 30 + form);
            }
            edges.due("all forms", 9, () -> c.forms(9, language));
            for (int form = 0; form < 9; form++) {
                int number = form / 3 + 1;
                int gender = form % 3;
                edges.due("its own sign", 30 + form, () -> c.toldSign(9, language, number, gender, 0));
            }
            Fill.put(c, 9, language, 1, 1, 50);
            edges.due("none more", 9, () -> c.forms(9, language));
            edges.due("the new one", 50, () -> c.toldSign(9, language, 2, 1, 0));
        }
        for (int three : Edges.NO_THREES) {
            PhraseCatalogue c = new PhraseCatalogue();
            c.sign(1);
            edges.refused("the class " + three, Edges.INDEX, () -> c.set(0, 0, three, 0, false));
            edges.refused("the gender " + three, Edges.INDEX, () -> c.set(0, 0, 0, three, false));
        }
    }

    private void aFormIsARowOf1To8Signs() {
        edges.of(TERMS, "A form is a row of 1 to 8 signs: words, 1 to 99, and placeholders, 101 to 104.");
        PhraseCatalogue c = new PhraseCatalogue();
        edges.refused("none", Edges.STATE, () -> c.set(0, 0, 2, 0, false));
        for (int many = 1; many <= 8; many++) {
            int length = many;
            for (int i = 0; i < many; i++) {
                c.sign(99 - i);
            }
            edges.due("a row of " + many, many, () -> c.set(0, 0, 2, 0, false));
            edges.due("its first", 99, () -> c.toldSign(0, 0, 0, 0, 0));
            edges.due("its last", 100 - length, () -> c.toldSign(0, 0, 0, 0, length - 1));
            edges.refused("no more", Edges.INDEX, () -> c.toldSign(0, 0, 0, 0, length));
        }
        edges.due("eight", 8, () -> c.remove(0, 0, 2, 0));
        Fill.draft(c, 1, 99, 101, 104, 1, 1, 1, 1);
        edges.refused("nine", Edges.STATE, () -> c.sign(1));
        PhraseCatalogue d = new PhraseCatalogue();
        for (int sign : new int[] {0, 100, 105, -1, Edges.LEAST, Edges.GREATEST}) {
            edges.refused("neither a word nor a placeholder, " + sign, Edges.ARGUMENT, () -> d.sign(sign));
        }
        for (int word : new int[] {1, 99}) {
            Fill.put(d, 1, 0, 2, 0, word);
            Fill.put(d, 1, 1, 2, 0, 5);
            edges.due("a word is no placeholder, " + word, true, () -> d.fits(1, 1, 2, 0));
        }
        for (int placeholder = 101; placeholder <= 104; placeholder++) {
            Fill.put(d, 1, 0, 2, 0, placeholder);
            edges.due("a placeholder is no word, " + placeholder, false, () -> d.fits(1, 1, 2, 0));
        }
    }

    private void lacksAndStrange() {
        edges.of(TERMS, "A form lacks a placeholder if the source text of its key has it in some form, and this form does "
            + "not; it has a strange one if it has a placeholder that no form of the source text of its key has.");
        for (int form = 0; form < 9; form++) {
            PhraseCatalogue c = new PhraseCatalogue();
            int kind = form / 3;
            int gender = form % 3;
            Fill.put(c, 0, 5, 1, 1, 101);
            Fill.put(c, 0, 5, 2, 2, 7);
            edges.due("strange without a source text", false, () -> c.fits(0, 5, 1, 1));
            edges.due("words without a source text", true, () -> c.fits(0, 5, 2, 2));
            Fill.put(c, 1, 0, kind, gender, 101);
            Fill.put(c, 0, 4, kind, gender, 101);
            edges.due("neither another key nor another language has it for this one", false, () -> c.fits(0, 5, 1, 1));
            edges.due("nor is it lacking", true, () -> c.fits(0, 5, 2, 2));
            Fill.put(c, 0, 0, kind, gender, 101);
            edges.due("strange no more", true, () -> c.fits(0, 5, 1, 1));
            edges.due("lacking now", false, () -> c.fits(0, 5, 2, 2));
            Fill.put(c, 0, 0, 2 - kind, (gender + 1) % 3, 7, 104);
            edges.due("one of two", false, () -> c.fits(0, 5, 1, 1));
            edges.due("the source's own form lacks one of two", false, () -> c.fits(0, 0, kind, gender));
            c.remove(0, 0, 2 - kind, (gender + 1) % 3);
            edges.due("the source's own form has all", true, () -> c.fits(0, 0, kind, gender));
            c.remove(0, 0, kind, gender);
            edges.due("the last form of the source taken away: strange", false, () -> c.fits(0, 5, 1, 1));
            edges.due("the last form of the source taken away: words", true, () -> c.fits(0, 5, 2, 2));
        }
    }

    private void allowedToLack() {
        edges.of(TERMS, "A form can be marked as allowed to lack placeholders.",
            "A form fits if it has no strange placeholder, and lacks none or is allowed to.");
        int[][] rows = {{1}, {101}, {102}, {101, 102}, {103}, {101, 102, 103}};
        boolean[] lacks = {true, true, true, false, true, false};
        boolean[] strange = {false, false, false, false, true, true};
        for (int language : new int[] {1, 5}) {
            PhraseCatalogue c = new PhraseCatalogue();
            Fill.put(c, 9, 0, 0, 0, 101);
            Fill.put(c, 9, 0, 0, 1, 102);
            for (int i = 0; i < rows.length; i++) {
                Fill.put(c, 9, language, 2, 2, true, rows[i]);
                edges.due("allowed, row " + i, !strange[i], () -> c.fits(9, language, 2, 2));
                Fill.put(c, 9, language, 2, 2, false, rows[i]);
                edges.due("not allowed, row " + i, !strange[i] && !lacks[i], () -> c.fits(9, language, 2, 2));
            }
        }
        PhraseCatalogue c = new PhraseCatalogue();
        Fill.put(c, 9, 0, 0, 0, true, 101);
        Fill.put(c, 9, 0, 0, 1, false, 102);
        edges.due("a form of the source that is allowed", true, () -> c.fits(9, 0, 0, 0));
        edges.due("a form of the source that is not", false, () -> c.fits(9, 0, 0, 1));
    }

    private void onesAndFew() {
        edges.of(TERMS, "Each language has two numbers, 0 to 100: ones and few, at first 1 and 1.");
        PhraseCatalogue c = new PhraseCatalogue();
        for (int language = 0; language < 6; language++) {
            int l = language;
            edges.due("0 at first", 2, () -> c.kindOf(l, 0));
            edges.due("1 at first", 0, () -> c.kindOf(l, 1));
            edges.due("2 at first", 2, () -> c.kindOf(l, 2));
        }
        c.setNumbers(5, 0, 100);
        edges.due("no ones", 1, () -> c.kindOf(5, 1));
        edges.due("the most few", 1, () -> c.kindOf(5, 100));
        edges.due("the next above", 2, () -> c.kindOf(5, 101));
        for (int wrong : new int[] {-1, 101, Edges.LEAST, Edges.GREATEST}) {
            edges.refused("ones " + wrong, Edges.ARGUMENT, () -> Fill.numbers(c, 0, wrong, 1));
            edges.refused("few " + wrong, Edges.ARGUMENT, () -> Fill.numbers(c, 0, 1, wrong));
        }
    }

    private void theClassOfANumber() {
        edges.of(TERMS, "A number n, 0 or more, is of the class 0 if it is at most the ones, but not 0; otherwise of the class 1 "
            + "if it is at most the few, but not 0; otherwise of the class 2.");
        int[][] limits = {{0, 0}, {0, 1}, {1, 0}, {1, 1}, {1, 2}, {1, 100}, {99, 100}, {100, 0}, {100, 100}};
        for (int[] limit : limits) {
            PhraseCatalogue c = new PhraseCatalogue();
            c.setNumbers(0, limit[0], limit[1]);
            for (int number = 0; number <= 102; number++) {
                int n = number;
                int above = n <= limit[1] ? 1 : 2;
                int due = n == 0 ? 2 : n <= limit[0] ? 0 : above;
                edges.due(n + " by " + limit[0] + " and " + limit[1], due, () -> c.kindOf(0, n));
            }
            edges.due("the greatest number", 2, () -> c.kindOf(0, Edges.GREATEST));
            edges.refused("the next below 0", Edges.ARGUMENT, () -> c.kindOf(0, -1));
            edges.refused("the least int", Edges.ARGUMENT, () -> c.kindOf(0, Edges.LEAST));
        }
    }

    private void fewNotAboveOnes() {
        edges.of(TERMS, "(So with few not above ones no number is of the class 1.)");
        for (int few : new int[] {0, 1, 49, 50}) {
            PhraseCatalogue c = new PhraseCatalogue();
            c.setNumbers(3, 50, few);
            for (int number = 0; number <= 102; number++) {
                int n = number;
                edges.due(n + " by 50 and " + few, n >= 1 && n <= 50 ? 0 : 2, () -> c.kindOf(3, n));
            }
        }
        PhraseCatalogue c = new PhraseCatalogue();
        c.setNumbers(3, 50, 51);
        edges.due("just above ones", 1, () -> c.kindOf(3, 51));
    }

    private void theVersionOfASourceText() {
        edges.of(TERMS, "Each source text has a version, 0 as long as there is none, and 1 more with each change of it (a form set "
            + "or taken away).");
        PhraseCatalogue c = new PhraseCatalogue();
        edges.due("none", 0, () -> c.version(0));
        Fill.put(c, 0, 1, 0, 0, 1);
        c.remove(0, 1, 0, 0);
        edges.due("none, after a translation", 0, () -> c.version(0));
        edges.due("a form set", 1, () -> Fill.put(c, 0, 0, 0, 0, false, 1));
        edges.due("the same set again", 2, () -> Fill.put(c, 0, 0, 0, 0, false, 1));
        edges.due("another mark", 3, () -> Fill.put(c, 0, 0, 0, 0, true, 1));
        edges.due("another form", 4, () -> Fill.put(c, 0, 0, 2, 2, 1));
        c.remove(0, 0, 0, 0);
        edges.due("a form taken away", 5, () -> c.version(0));
        edges.refused("taken away once more", Edges.STATE, () -> c.remove(0, 0, 0, 0));
        edges.refused("nothing to set", Edges.STATE, () -> c.set(0, 0, 0, 0, true));
        edges.due("no change", 5, () -> c.version(0));
        edges.due("another key", 0, () -> c.version(1));
    }

    private void staleByAsManyVersions() {
        edges.of(TERMS, "A translation, which is a text of another language, has the version of its source text at its latest "
            + "change; it is stale by as many versions as the source text has had since.");
        PhraseCatalogue c = new PhraseCatalogue();
        Fill.put(c, 0, 1, 0, 0, 1);
        Fill.put(c, 0, 5, 0, 0, 1);
        Fill.put(c, 0, 5, 2, 2, 1);
        edges.due("no source text yet", 0, () -> c.staleBy(0, 5));
        Fill.put(c, 0, 0, 0, 0, 1);
        edges.due("its first version", 1, () -> c.staleBy(0, 5));
        c.remove(0, 0, 0, 0);
        edges.due("taken away", 2, () -> c.staleBy(0, 5));
        edges.refused("nothing to set", Edges.STATE, () -> c.set(0, 5, 0, 0, true));
        edges.refused("nothing to take away", Edges.STATE, () -> c.remove(0, 5, 1, 1));
        edges.due("what is refused is no change", 2, () -> c.staleBy(0, 5));
        c.remove(0, 5, 0, 0);
        edges.due("a form of it taken away is a change", 0, () -> c.staleBy(0, 5));
        edges.due("no change of another one", 2, () -> c.staleBy(0, 1));
        Fill.put(c, 0, 0, 0, 0, 1);
        Fill.put(c, 0, 5, 2, 2, 1);
        edges.due("the same set again is a change", 0, () -> c.staleBy(0, 5));
        edges.due("no change of another one", 3, () -> c.staleBy(0, 1));
    }

    private void theLastFormTakenAway() {
        edges.of(TERMS, "A text whose last form is taken away is not there any more; the version of a source text stays.");
        PhraseCatalogue c = new PhraseCatalogue();
        for (int language : new int[] {0, 5}) {
            Fill.put(c, 9, language, 0, 0, 1);
            Fill.put(c, 9, language, 2, 2, 1);
        }
        c.remove(9, 0, 0, 0);
        c.remove(9, 5, 2, 2);
        edges.due("the source is there yet", 0, () -> c.staleBy(9, 0));
        edges.due("the translation is there yet", 0, () -> c.staleBy(9, 5));
        edges.due("of another language", 1, () -> c.missing(4));
        c.remove(9, 5, 0, 0);
        edges.due("no translation", -1, () -> c.staleBy(9, 5));
        edges.due("it is missing", 1, () -> c.missing(5));
        edges.told(c, 9, 5, 1, 0, -1, -1);
        edges.told(c, 9, 5, 9, 2, 0, 8);
        c.remove(9, 0, 2, 2);
        edges.due("no source", -1, () -> c.staleBy(9, 0));
        edges.due("no source is missing", 0, () -> c.missing(5));
        edges.due("the version", 4, () -> c.version(9));
        edges.told(c, 9, 5, 9, 2, -1, -1);
        edges.due("the version goes on", 5, () -> Fill.put(c, 9, 0, 1, 1, 1));
        edges.due("a new translation", 5, () -> Fill.put(c, 9, 5, 1, 1, 1));
        edges.due("has the version of now", 0, () -> c.staleBy(9, 5));
    }

    /** The refused calls of each promise are compared so, too; these are refused in the midst of their arguments. */
    private void anExceptionChangesNothing() {
        edges.of(TERMS, "A call that throws an exception changes nothing.");
        List<State> full = List.of(State.FULL);
        edges.refusedIn(full, "a ninth sign", Edges.STATE, c -> c.sign(5));
        edges.refusedIn(full, "a wrong gender of set", Edges.INDEX, c -> c.set(9, 0, 2, 3, true));
        edges.refusedIn(full, "a wrong gender of remove", Edges.INDEX, c -> c.remove(9, 0, 2, 3));
        edges.refusedIn(full, "a form that is not there", Edges.STATE, c -> c.remove(9, 5, 0, 0));
        edges.refusedIn(full, "a good ones with a wrong few", Edges.ARGUMENT, c -> Fill.numbers(c, 5, 7, 101));
        edges.refusedIn(full, "a chain that would go round", Edges.ARGUMENT, c -> c.setFallback(5, 1));
        edges.refusedIn(List.of(State.NEW), "an empty draft", Edges.STATE, c -> c.set(0, 0, 0, 0, true));
        PhraseCatalogue c = new PhraseCatalogue();
        State.FULL.reach(c);
        edges.due("the draft before", 8, () -> c.draft());
        edges.refused("a wrong key", Edges.INDEX, () -> c.set(10, 0, 2, 2, true));
        edges.due("the draft after", 8, () -> c.draft());
        edges.due("the good call after it", 14, () -> c.set(9, 0, 2, 2, true));
    }

    private void theFirstOfSeveralExceptions() {
        edges.of(TERMS, "If several exceptions apply, the one that is named first in the throws clause is thrown.");
        edges.refusedInAll("setFallback on itself of none", Edges.INDEX, c -> c.setFallback(6, 6));
        edges.refusedInAll("setFallback of the source, which goes round", Edges.INDEX, c -> c.setFallback(0, 1));
        edges.refusedInAll("setNumbers, all wrong", Edges.INDEX, c -> Fill.numbers(c, -1, -1, 101));
        edges.refusedIn(List.of(State.FULL), "a wrong ninth sign", Edges.ARGUMENT, c -> c.sign(105));
        edges.refusedIn(List.of(State.NEW), "set of an empty draft nowhere", Edges.INDEX, c -> c.set(0, 0, 3, 0, true));
        edges.refusedInAll("remove of nothing nowhere", Edges.INDEX, c -> c.remove(9, 6, 0, 0));
        edges.refusedInAll("kindOf, both wrong", Edges.INDEX, c -> c.kindOf(6, -1));
        edges.refusedInAll("toldBy, both wrong", Edges.INDEX, c -> c.toldBy(0, 0, -1, 3));
        edges.refusedInAll("toldByLooking, both wrong", Edges.INDEX, c -> c.toldByLooking(0, 0, -1, 3));
        edges.refusedInAll("toldForm, both wrong", Edges.INDEX, c -> c.toldForm(0, 0, -1, 3));
        edges.refusedInAll("toldSign, both wrong", Edges.INDEX, c -> c.toldSign(0, 0, -1, 3, 0));
        edges.refusedInAll("toldSign of nothing at -1", Edges.ARGUMENT, c -> c.toldSign(3, 0, -1, 0, -1));
    }

    /** The last language, key, class and gender are asked in each method; the promises have the other values. */
    private void thereIsNoSuchOne() {
        edges.of(TERMS, "A method that takes a language, a key, a class or a gender throws IndexOutOfBoundsException if there is no "
            + "such one.");
        List<Edges.Asked> calls = List.of(
            c -> c.setFallback(6, 0), c -> c.setFallback(5, 6), c -> Fill.numbers(c, 6, 1, 1),
            c -> c.set(10, 5, 2, 2, true), c -> c.set(9, 6, 2, 2, true), c -> c.set(9, 5, 3, 2, true), c -> c.set(9, 5, 2, 3, true),
            c -> c.remove(10, 5, 2, 2), c -> c.remove(9, 6, 2, 2), c -> c.remove(9, 5, 3, 2), c -> c.remove(9, 5, 2, 3),
            c -> c.kindOf(6, 0), c -> c.forms(10, 5), c -> c.forms(9, 6), c -> c.version(10), c -> c.staleBy(10, 5),
            c -> c.staleBy(9, 6), c -> c.missing(6), c -> c.fits(10, 5, 2, 2), c -> c.fits(9, 6, 2, 2), c -> c.fits(9, 5, 3, 2),
            c -> c.fits(9, 5, 2, 3), c -> c.toldBy(10, 5, 0, 2), c -> c.toldBy(9, 6, 0, 2), c -> c.toldBy(9, 5, 0, 3),
            c -> c.toldByLooking(10, 5, 0, 2), c -> c.toldByLooking(9, 6, 0, 2), c -> c.toldByLooking(9, 5, 0, 3),
            c -> c.toldForm(10, 5, 0, 2), c -> c.toldForm(9, 6, 0, 2), c -> c.toldForm(9, 5, 0, 3),
            c -> c.toldSign(10, 5, 0, 2, 0), c -> c.toldSign(9, 6, 0, 2, 0), c -> c.toldSign(9, 5, 0, 3, 0),
            c -> c.nearDistance(10, 5, 2, 2), c -> c.nearDistance(9, 6, 2, 2), c -> c.nearDistance(9, 5, 3, 2),
            c -> c.nearDistance(9, 5, 2, 3), c -> c.nearSign(10, 5, 2, 2, 0), c -> c.nearSign(9, 6, 2, 2, 0),
            c -> c.nearSign(9, 5, 3, 2, 0), c -> c.nearSign(9, 5, 2, 3, 0));
        for (int i = 0; i < calls.size(); i++) {
            edges.refusedInAll("call " + i, Edges.INDEX, calls.get(i));
        }
    }

    private void nothingFromHereOnChangesAnything() {
        edges.of(TERMS, "nothing from here on changes anything.");
        List<Edges.Asked> questions = List.of(
            c -> c.draft(), c -> c.kindOf(1, 3), c -> c.forms(0, 0), c -> c.version(0), c -> c.staleBy(0, 5),
            c -> c.missing(4), c -> c.fits(0, 5, 0, 0), c -> c.toldBy(9, 1, 9, 1), c -> c.toldByLooking(9, 1, 9, 1),
            c -> c.toldForm(9, 1, 9, 1), c -> c.toldSign(9, 1, 9, 1, 0), c -> c.pairs(), c -> c.nearDistance(0, 5, 0, 0),
            c -> c.nearSign(0, 5, 0, 0, 7), c -> c.nearDistance(9, 5, 2, 2), c -> c.nearSign(9, 5, 2, 2, 8));
        for (int i = 0; i < questions.size(); i++) {
            for (State state : State.values()) {
                edges.changesNothing(state, "question " + i, questions.get(i));
            }
        }
    }
}
