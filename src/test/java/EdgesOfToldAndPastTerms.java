/** The edges that the section "Terms" names of what is told and of the past. */
final class EdgesOfToldAndPastTerms {
    private static final String TERMS = "Terms";

    private final Edges edges;

    EdgesOfToldAndPastTerms(Edges edges) {
        this.edges = edges;
    }

    void run() {
        theWayByWhichItWasFound();
        alongTheChainAndByLooking();
        throughTheChain();
        theTriesOfALanguage();
        theFirstThatFits();
        nothingIsTold();
        theOldOneIsKept();
        fiveTranslationsAtOnce();
        atMost20Pairs();
        theDistanceOfTwoForms();
        theNearOne();
        atMostHalfOfTheSigns();
    }

    private void theWayByWhichItWasFound() {
        edges.of("What it is", "what is told comes with the way by which it was found");
        PhraseCatalogue c = new PhraseCatalogue();
        c.setFallback(5, 1);
        c.setNumbers(1, 0, 1);
        Fill.put(c, 9, 1, 1, 0, 44, 45);
        edges.told(c, 9, 5, 1, 2, 1, 3);
        edges.due("the sign comes by the same way", 45, () -> c.toldSign(9, 5, 1, 2, 1));
    }

    private void alongTheChainAndByLooking() {
        edges.of(TERMS, "What is told is found along the chain, and once more by looking at all forms.");
        for (int language = 0; language < 6; language++) {
            for (int form = 0; form < 9; form++) {
                PhraseCatalogue c = new PhraseCatalogue();
                State.FULL.reach(c);
                c.set(8, 0, 0, 0, true);
                Fill.put(c, 3, language, form / 3, form % 3, 1);
                bothWays(c);
            }
        }
    }

    private void bothWays(PhraseCatalogue c) {
        for (int language = 0; language < 6; language++) {
            for (int gender = 0; gender < 3; gender++) {
                for (int number : new int[] {0, 1, 2, 100, 101}) {
                    int l = language;
                    int g = gender;
                    int alongTheChain = c.toldBy(3, l, number, g);
                    edges.due("by looking", alongTheChain, () -> c.toldByLooking(3, l, number, g));
                }
            }
        }
    }

    private void throughTheChain() {
        edges.of(TERMS, "For a key, a language, a number and a gender the languages of the chain are gone through.");
        PhraseCatalogue c = new PhraseCatalogue();
        for (int language = 1; language < 5; language++) {
            c.setFallback(language, language + 1);
        }
        Fill.put(c, 3, 0, 2, 0, true, 1);
        for (int language = 0; language < 6; language++) {
            edges.told(c, 3, language, 0, 2, 0, 6);
        }
        Fill.put(c, 3, 3, 2, 0, true, 1);
        for (int language = 0; language < 6; language++) {
            edges.told(c, 3, language, 0, 2, language >= 1 && language <= 3 ? 3 : 0, 6);
        }
        Fill.put(c, 3, 1, 2, 0, true, 1);
        for (int language = 0; language < 6; language++) {
            edges.told(c, 3, language, 0, 2, language == 1 ? 1 : language == 2 || language == 3 ? 3 : 0, 6);
        }
    }

    /** Each language finds its own class of the number; the last one of four tries is the class 2 and gender 0. */
    private void theTriesOfALanguage() {
        edges.of(TERMS, "In each with a text of this key the class is found by the numbers of this language, and these forms are "
            + "tried: this class and gender; this class and gender 0; the class 2 and this gender; the class 2 and gender 0.");
        int[] kinds = {0, 0, 2, 2};
        int[] genders = {2, 0, 2, 0};
        for (int first = 0; first < 4; first++) {
            PhraseCatalogue c = new PhraseCatalogue();
            c.setNumbers(0, 0, 0);
            c.setNumbers(5, 100, 100);
            Fill.put(c, 9, 0, 2, 0, 1);
            Fill.put(c, 9, 5, 0, 1, 1);
            Fill.put(c, 9, 5, 1, 2, 1);
            edges.told(c, 9, 5, 100, 2, 0, 6);
            for (int i = first; i < 4; i++) {
                Fill.put(c, 9, 5, kinds[i], genders[i], 1);
            }
            edges.told(c, 9, 5, 100, 2, 5, 3 * kinds[first] + genders[first]);
            edges.told(c, 9, 5, 101, 2, 5, first < 3 ? 8 : 6);
            edges.told(c, 9, 5, 0, 2, 5, first < 3 ? 8 : 6);
            edges.told(c, 9, 5, 1, 2, 5, 3 * kinds[first] + genders[first]);
        }
    }

    private void theFirstThatFits() {
        edges.of(TERMS, "The first one that is there and fits is told, stale or not.");
        PhraseCatalogue c = new PhraseCatalogue();
        Fill.put(c, 0, 0, 2, 0, true, 101);
        Fill.put(c, 0, 5, 2, 0, 101);
        Fill.put(c, 0, 5, 0, 2, true, 102);
        edges.told(c, 0, 5, 1, 2, 5, 6);
        Fill.put(c, 0, 0, 1, 1, true, 102);
        edges.told(c, 0, 5, 1, 2, 5, 2);
        edges.told(c, 0, 5, 0, 2, 0, 6);
        c.remove(0, 0, 1, 1);
        edges.due("stale", 2, () -> c.staleBy(0, 5));
        edges.told(c, 0, 5, 1, 2, 5, 6);
    }

    private void nothingIsTold() {
        edges.of(TERMS, "If none is found up to the source, nothing is told.");
        PhraseCatalogue c = new PhraseCatalogue();
        edges.told(c, 0, 0, 0, 0, -1, -1);
        edges.told(c, 9, 5, Edges.GREATEST, 2, -1, -1);
        Fill.put(c, 9, 0, 2, 0, 101);
        Fill.put(c, 9, 0, 2, 1, 102);
        Fill.put(c, 9, 5, 2, 0, 101);
        edges.told(c, 9, 5, 0, 2, -1, -1);
        edges.told(c, 9, 0, 0, 0, -1, -1);
        Fill.put(c, 9, 0, 2, 0, true, 101);
        edges.told(c, 9, 5, 0, 2, 0, 6);
    }

    private void theOldOneIsKept() {
        edges.of(TERMS, "Each time a form of a source text that is there is set anew, also to the same signs, or taken away, the old "
            + "one is kept with the forms of all translations of the same class and gender as they are then, by rising languages");
        PhraseCatalogue c = new PhraseCatalogue();
        Fill.put(c, 0, 5, 2, 2, 41);
        Fill.put(c, 0, 4, 2, 1, 41);
        Fill.put(c, 0, 3, 1, 2, 41);
        Fill.put(c, 1, 2, 2, 2, 41);
        Fill.put(c, 0, 0, 2, 2, 1, 2);
        edges.due("not there before", 0, () -> c.pairs());
        Fill.put(c, 0, 0, 2, 2, 1, 2);
        edges.due("set anew to the same signs, of one translation", 1, () -> c.pairs());
        edges.due("that one", 41, () -> c.nearSign(0, 5, 2, 2, 0));
        Fill.put(c, 0, 5, 2, 2, 42);
        edges.due("a translation set anew", 1, () -> c.pairs());
        edges.due("as it was then", 41, () -> c.nearSign(0, 5, 2, 2, 0));
        c.remove(0, 0, 2, 2);
        edges.due("taken away", 2, () -> c.pairs());
        Fill.put(c, 9, 0, 0, 0, 1, 2);
        edges.due("as it was then", 42, () -> c.nearSign(9, 5, 0, 0, 0));
        c.remove(0, 5, 2, 2);
        edges.due("a translation taken away", 2, () -> c.pairs());
        Fill.put(c, 0, 0, 2, 2, 1, 2);
        edges.due("set where none was", 2, () -> c.pairs());
        Fill.put(c, 0, 0, 2, 2, 1, 2);
        edges.due("set anew without a translation", 2, () -> c.pairs());
    }

    private void fiveTranslationsAtOnce() {
        edges.of(TERMS, "by rising languages");
        PhraseCatalogue c = new PhraseCatalogue();
        Fill.put(c, 0, 0, 0, 0, 1);
        for (int language = 5; language >= 1; language--) {
            Fill.put(c, 0, language, 0, 0, 40 + language);
        }
        Fill.put(c, 0, 0, 0, 0, 2);
        Fill.put(c, 1, 0, 0, 0, 1);
        edges.due("five", 5, () -> c.pairs());
        Fill.put(c, 2, 0, 1, 1, 9);
        Fill.put(c, 2, 1, 1, 1, 9);
        for (int change = 0; change < 15; change++) {
            Fill.put(c, 2, 0, 1, 1, 9);
        }
        edges.due("full", 20, () -> c.pairs());
        for (int gone = 1; gone <= 5; gone++) {
            Fill.put(c, 2, 0, 1, 1, 9);
            for (int language = 1; language < 6; language++) {
                int l = language;
                edges.due("the pair of " + l + " after " + gone, l <= gone ? 0 : 40 + l, () -> c.nearSign(1, l, 0, 0, 0));
            }
        }
        edges.due("full yet", 20, () -> c.pairs());
    }

    /** From 18 pairs five more push out three; from 20, five. */
    private void atMost20Pairs() {
        edges.of(TERMS, "at most 20 of these pairs (the earliest ones go first; a pair is an old form and one translation)");
        for (int before : new int[] {0, 14, 15, 16, 18, 19, 20}) {
            PhraseCatalogue c = new PhraseCatalogue();
            Fill.put(c, 1, 5, 0, 0, 61);
            for (int i = 0; i <= before; i++) {
                Fill.put(c, 1, 0, 0, 0, 10 + i);
            }
            edges.due("before", before, () -> c.pairs());
            for (int language = 1; language < 6; language++) {
                Fill.put(c, 2, language, 1, 1, 70 + language);
            }
            Fill.put(c, 2, 0, 1, 1, 99);
            c.remove(2, 0, 1, 1);
            edges.due("after five more", Math.min(20, before + 5), () -> c.pairs());
            int gone = Math.max(0, before + 5 - 20);
            for (int i = 0; i < before; i++) {
                Fill.put(c, 3, 0, 2, 2, 10 + i);
                edges.due("pair " + i + " of " + before, i < gone ? 0 : 61, () -> c.nearSign(3, 5, 2, 2, 0));
            }
            Fill.put(c, 3, 0, 2, 2, 99);
            for (int language = 1; language < 6; language++) {
                int l = language;
                edges.due("the new pair of " + l, 70 + l, () -> c.nearSign(3, l, 2, 2, 0));
            }
        }
    }

    /** Measured where half of the signs allow it: the form that is asked has all eight. */
    private void theDistanceOfTwoForms() {
        edges.of(TERMS, "The distance of two forms is the least number of signs that are put in, taken out or replaced to make one of "
            + "the other.");
        int[] form = {1, 2, 3, 4, 5, 6, 7, 8};
        int[][] olds = {{1, 2, 3, 4, 5, 6, 7, 8}, {1, 2, 3, 4, 5, 6, 7, 104}, {104, 2, 3, 4, 5, 6, 7, 8}, {2, 3, 4, 5, 6, 7, 8},
            {1, 2, 3, 4, 5, 6, 7}, {1, 2, 3, 5, 6, 7, 8}, {2, 3, 4, 5, 6, 7, 8, 1}, {8, 1, 2, 3, 4, 5, 6, 7}, {2, 1, 3, 4, 5, 6, 7, 8},
            {1, 2, 3, 4}, {5, 6, 7, 8}, {1, 3, 5, 7}, {1, 1, 2, 2, 3, 3, 4, 4}, {3, 4, 5, 6, 7, 8, 1, 2}, {1, 2, 3}, {9}, {8},
            {8, 7, 6, 5, 4, 3, 2, 1}, {9, 9, 9, 9, 5, 6, 7, 8}, {9, 9, 9, 9, 9, 6, 7, 8}, {4, 5, 6, 7, 8}, {9, 9, 4, 5, 6, 7, 8}};
        int[] due = {0, 1, 1, 1, 1, 1, 2, 2, 2, 4, 4, 4, -1, 4, -1, -1, -1, -1, 4, -1, 3, 3};
        for (int i = 0; i < olds.length; i++) {
            PhraseCatalogue c = new PhraseCatalogue();
            int want = due[i];
            Fill.put(c, 0, 0, 0, 0, true, olds[i]);
            Fill.put(c, 0, 1, 0, 0, 7);
            Fill.put(c, 0, 0, 0, 0, form);
            edges.due("old form " + i, want, () -> c.nearDistance(0, 1, 0, 0));
        }
    }

    private void theNearOne() {
        edges.of(TERMS, "A near one for a key and a language, for a class and gender in which the source text has a form, is the pair "
            + "of this language whose old form has the least distance to that form, of several the latest one");
        PhraseCatalogue c = new PhraseCatalogue();
        int[][] olds = {{1, 2, 3, 4}, {1, 2, 3, 9}, {1, 2, 3, 4}, {1, 2, 8, 9}};
        for (int i = 0; i < olds.length; i++) {
            Fill.put(c, 0, 0, 0, 0, olds[i]);
            Fill.put(c, 0, 1, 0, 0, 60 + i);
        }
        c.remove(0, 0, 0, 0);
        Fill.put(c, 0, 2, 0, 0, 70);
        Fill.put(c, 0, 0, 0, 0, 1, 2, 3, 4);
        edges.due("the latest one of two at 0", 62, () -> c.nearSign(0, 1, 0, 0, 0));
        Fill.put(c, 9, 0, 2, 2, 1, 2, 3, 5);
        edges.due("the latest one of three at 1", 62, () -> c.nearSign(9, 1, 2, 2, 0));
        edges.due("their distance", 1, () -> c.nearDistance(9, 1, 2, 2));
        Fill.put(c, 9, 0, 2, 2, 1, 2, 3, 9);
        edges.due("the one at 0, among later ones at 1", 61, () -> c.nearSign(9, 1, 2, 2, 0));
        Fill.put(c, 9, 0, 2, 2, 1, 2, 8, 4);
        edges.due("the latest one at the half is no nearer", 63, () -> c.nearSign(9, 1, 2, 2, 0));
        edges.due("another language has no pair", -1, () -> c.nearDistance(9, 2, 2, 2));
        edges.due("the source has none", -1, () -> c.nearDistance(9, 0, 2, 2));
        edges.due("a class in which the source has no form", -1, () -> c.nearDistance(9, 1, 0, 2));
    }

    private void atMostHalfOfTheSigns() {
        edges.of(TERMS, "but at most half of the signs of that form, rounded down.");
        for (int many = 1; many <= 8; many++) {
            for (int replaced = 0; replaced <= many; replaced++) {
                int[] form = new int[many];
                int[] old = new int[many];
                for (int i = 0; i < many; i++) {
                    form[i] = 1 + i;
                    old[i] = i < replaced ? 90 : 1 + i;
                }
                PhraseCatalogue c = new PhraseCatalogue();
                int due = replaced <= many / 2 ? replaced : -1;
                Fill.put(c, 0, 0, 0, 0, old);
                Fill.put(c, 0, 5, 0, 0, 7);
                Fill.put(c, 0, 0, 0, 0, form);
                edges.due(replaced + " of " + many, due, () -> c.nearDistance(0, 5, 0, 0));
                edges.due(replaced + " of " + many, due < 0 ? 0 : 7, () -> c.nearSign(0, 5, 0, 0, 0));
            }
        }
    }
}
