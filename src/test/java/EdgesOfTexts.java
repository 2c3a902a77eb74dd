import java.util.List;

/** The edges of promises 4 to 7: sign, set, remove, draft. */
final class EdgesOfTexts {
    /** The last ones would be signs if they were cut to 8 or 16 bits. */
    private static final int[] NO_SIGNS = {0, -1, 100, 105, Edges.LEAST, Edges.GREATEST, 256 + 1, 65536 + 101};
    private static final int[] LEAST_AND_GREATEST_SIGNS = {1, 99, 101, 104};

    private final Edges edges;

    EdgesOfTexts(Edges edges) {
        this.edges = edges;
    }

    void run() {
        promise4Signs();
        promise4HowManySigns();
        promise4SignOutOfRange();
        promise4Eight();
        promise5TheDraftIsEmptyThen();
        promise5Places();
        promise5MayLack();
        promise5TheVersionThen();
        promise5NoSuchPlace();
        promise5TheDraftIsEmpty();
        promise6TakesAFormAway();
        promise6HowManySigns();
        promise6NoSuchPlace();
        promise6NotThere();
        promise7HowManySigns();
    }

    private void promise4Signs() {
        edges.of("Promise 4", "Adds a sign to the draft.", "`sign`: 1 to 99, or 101 to 104");
        for (int sign = 1; sign <= 104; sign++) {
            PhraseCatalogue c = new PhraseCatalogue();
            int s = sign;
            if (sign == 100) {
                edges.refused("sign 100", Edges.ARGUMENT, () -> c.sign(s));
            } else {
                edges.due("sign " + s, 1, () -> c.sign(s));
                c.set(0, 0, 2, 0, false);
                edges.due("the sign " + s, s, () -> c.toldSign(0, 0, 0, 0, 0));
            }
        }
    }

    private void promise4HowManySigns() {
        edges.of("Promise 4", "Returns how many signs it has then.");
        PhraseCatalogue c = new PhraseCatalogue();
        for (int many = 1; many <= 8; many++) {
            edges.due("sign", many, () -> c.sign(7));
        }
        c.set(0, 3, 0, 0, false);
        edges.due("the first one after a set", 1, () -> c.sign(7));
        edges.refused("a wrong one", Edges.ARGUMENT, () -> c.sign(0));
        edges.due("the second one", 2, () -> c.sign(7));
    }

    private void promise4SignOutOfRange() {
        edges.of("Promise 4", "if sign is out of range");
        for (int sign : NO_SIGNS) {
            edges.refusedIn(List.of(State.NEW, State.FILLED), "sign " + sign, Edges.ARGUMENT, c -> c.sign(sign));
            edges.refusedIn(List.of(State.FULL), "sign " + sign + ", and it has 8", Edges.ARGUMENT, c -> c.sign(sign));
        }
    }

    private void promise4Eight() {
        edges.of("Promise 4", "if it has 8");
        for (int sign : LEAST_AND_GREATEST_SIGNS) {
            edges.refusedIn(List.of(State.FULL), "sign " + sign, Edges.STATE, c -> c.sign(sign));
        }
        PhraseCatalogue c = new PhraseCatalogue();
        Fill.draft(c, 1, 2, 3, 4, 5, 6, 7);
        edges.due("the eighth", 8, () -> c.sign(8));
        edges.refused("the ninth", Edges.STATE, () -> c.sign(9));
        edges.refused("once more", Edges.STATE, () -> c.sign(9));
        c.set(0, 0, 2, 0, false);
        for (int place = 0; place < 8; place++) {
            int at = place;
            edges.due("the sign at " + at, at + 1, () -> c.toldSign(0, 0, 0, 0, at));
        }
        edges.refused("no ninth sign", Edges.INDEX, () -> c.toldSign(0, 0, 0, 0, 8));
        edges.due("room again", 1, () -> c.sign(9));
    }

    private void promise5TheDraftIsEmptyThen() {
        edges.of("Promise 5", "Sets a form to the draft, which is empty then.");
        for (int many = 1; many <= 8; many++) {
            PhraseCatalogue c = new PhraseCatalogue();
            for (int i = 0; i < many; i++) {
                c.sign(20 + i);
            }
            edges.due("set", 1, () -> c.set(0, 0, 2, 0, false));
            edges.due("the draft", 0, () -> c.draft());
            edges.refused("nothing to set", Edges.STATE, () -> c.set(0, 0, 2, 0, false));
            Fill.draft(c, 90, 91, 92);
            for (int i = 0; i < many; i++) {
                int at = i;
                edges.due("the sign at " + at, 20 + at, () -> c.toldSign(0, 0, 0, 0, at));
            }
            int end = many;
            edges.refused("past its end", Edges.INDEX, () -> c.toldSign(0, 0, 0, 0, end));
        }
    }

    private void promise5Places() {
        edges.of("Promise 5", "`key`: the key", "`language`: the language", "`kind`: 0 to 2: the number class",
            "`gender`: 0 to 2");
        for (int key : new int[] {0, 9}) {
            for (int language : new int[] {0, 5}) {
                for (int form = 0; form < 9; form++) {
                    PhraseCatalogue c = new PhraseCatalogue();
                    int l = language;
                    int f = form;
                    edges.due("set", l == 0 ? 1 : 0, () -> Fill.put(c, key, l, f / 3, f % 3, 1));
                    onlyThisOneIsThere(c, key, l, f);
                }
            }
        }
    }

    private void onlyThisOneIsThere(PhraseCatalogue c, int key, int language, int form) {
        for (int k : new int[] {0, 9}) {
            for (int l : new int[] {0, 5}) {
                edges.due("forms", k == key && l == language ? 1 : 0, () -> c.forms(k, l));
                for (int f = 0; f < 9; f++) {
                    int kind = f / 3;
                    int gender = f % 3;
                    edges.due("fits", k == key && l == language && f == form, () -> c.fits(k, l, kind, gender));
                }
            }
        }
    }

    private void promise5MayLack() {
        edges.of("Promise 5", "`mayLack`: whether it is allowed to lack placeholders");
        PhraseCatalogue c = new PhraseCatalogue();
        Fill.put(c, 0, 0, 2, 0, 101, 102, 103, 104);
        Fill.put(c, 0, 1, 0, 0, false, 1);
        edges.due("is not", false, () -> c.fits(0, 1, 0, 0));
        Fill.put(c, 0, 1, 0, 0, true, 1);
        edges.due("is", true, () -> c.fits(0, 1, 0, 0));
        Fill.put(c, 0, 1, 0, 1, false, 1);
        edges.due("another one is not", false, () -> c.fits(0, 1, 0, 1));
        edges.due("this one is yet", true, () -> c.fits(0, 1, 0, 0));
        Fill.put(c, 0, 1, 0, 0, false, 1);
        edges.due("is not any more", false, () -> c.fits(0, 1, 0, 0));
        Fill.put(c, 0, 1, 0, 0, false, 104, 103, 102, 101);
        edges.due("lacks none", true, () -> c.fits(0, 1, 0, 0));
    }

    private void promise5TheVersionThen() {
        edges.of("Promise 5", "Returns the version of the source text of the key then.");
        PhraseCatalogue c = new PhraseCatalogue();
        edges.due("a translation without a source", 0, () -> Fill.put(c, 9, 5, 2, 2, 1));
        edges.due("the first form", 1, () -> Fill.put(c, 9, 0, 2, 2, 1));
        edges.due("a translation", 1, () -> Fill.put(c, 9, 5, 2, 2, 1));
        edges.due("the same signs", 2, () -> Fill.put(c, 9, 0, 2, 2, 1));
        c.remove(9, 0, 2, 2);
        edges.due("a translation, the source taken away", 3, () -> Fill.put(c, 9, 5, 2, 2, 1));
        edges.due("the source again", 4, () -> Fill.put(c, 9, 0, 0, 0, 1));
        edges.due("another key", 1, () -> Fill.put(c, 8, 0, 0, 0, 1));
        edges.due("another key's translation", 0, () -> Fill.put(c, 0, 5, 0, 0, 1));
    }

    /** On a new object the draft is empty, too, so that both exceptions apply there. */
    private void promise5NoSuchPlace() {
        edges.of("Promise 5", "if there is no such key, language, class or gender");
        edges.refusesNoPlaces("set", (c, key, language, kind, gender) -> c.set(key, language, kind, gender, true));
    }

    private void promise5TheDraftIsEmpty() {
        edges.of("Promise 5", "if the draft is empty");
        for (int form = 0; form < 9; form++) {
            int kind = form / 3;
            int gender = form % 3;
            edges.refusedIn(List.of(State.NEW), "set of the source", Edges.STATE, c -> c.set(0, 0, kind, gender, true));
            edges.refusedIn(List.of(State.NEW), "set", Edges.STATE, c -> c.set(9, 5, kind, gender, false));
        }
        PhraseCatalogue c = new PhraseCatalogue();
        Fill.put(c, 0, 0, 2, 0, false, 1, 101);
        Fill.put(c, 0, 1, 2, 0, false, 2);
        edges.refused("set over the source's form", Edges.STATE, () -> c.set(0, 0, 2, 0, true));
        edges.refused("set over a translation", Edges.STATE, () -> c.set(0, 1, 2, 0, true));
        edges.due("the version stays", 1, () -> c.version(0));
        edges.due("no pair is kept", 0, () -> c.pairs());
        edges.due("the mark stays", false, () -> c.fits(0, 1, 2, 0));
        edges.due("the sign stays", 101, () -> c.toldSign(0, 0, 0, 0, 1));
    }

    private void promise6TakesAFormAway() {
        edges.of("Promise 6", "Takes a form away.", "`key`: the key", "`language`: the language", "`kind`: 0 to 2",
            "`gender`: 0 to 2");
        for (int key : new int[] {0, 9}) {
            for (int language : new int[] {0, 5}) {
                for (int form = 0; form < 9; form++) {
                    takesOnlyThisOneAway(key, language, form / 3, form % 3);
                }
            }
        }
    }

    private void takesOnlyThisOneAway(int key, int language, int kind, int gender) {
        PhraseCatalogue c = new PhraseCatalogue();
        for (int form = 0; form < 9; form++) {
            Fill.put(c, key, 0, form / 3, form % 3, 1);
            Fill.put(c, key, 5, form / 3, form % 3, 2);
        }
        edges.due("remove", 1, () -> c.remove(key, language, kind, gender));
        edges.due("forms", 8, () -> c.forms(key, language));
        edges.due("forms of the other language", 9, () -> c.forms(key, 5 - language));
        for (int form = 0; form < 9; form++) {
            int f = form;
            edges.due("fits", f != 3 * kind + gender, () -> c.fits(key, language, f / 3, f % 3));
        }
    }

    private void promise6HowManySigns() {
        edges.of("Promise 6", "Returns how many signs it had.");
        PhraseCatalogue c = new PhraseCatalogue();
        for (int many = 1; many <= 8; many++) {
            int due = many;
            for (int i = 0; i < many; i++) {
                c.sign(3);
            }
            c.set(9, 0, 1, 1, false);
            Fill.draft(c, 4, 4);
            c.set(9, 1, 1, 1, false);
            Fill.draft(c, 5, 5, 5);
            edges.due("of the source", due, () -> c.remove(9, 0, 1, 1));
            edges.due("of a translation", 2, () -> c.remove(9, 1, 1, 1));
            edges.due("the draft stays", 3, () -> c.draft());
            c.set(9, 1, 1, 1, false);
        }
    }

    private void promise6NoSuchPlace() {
        edges.of("Promise 6", "if there is no such key, language, class or gender");
        edges.refusesNoPlaces("remove", (c, key, language, kind, gender) -> c.remove(key, language, kind, gender));
    }

    private void promise6NotThere() {
        edges.of("Promise 6", "if it is not there");
        for (int form = 0; form < 9; form++) {
            int kind = form / 3;
            int gender = form % 3;
            edges.refusedIn(List.of(State.NEW), "remove", Edges.STATE, c -> c.remove(0, 0, kind, gender));
            edges.refusedIn(List.of(State.NEW), "remove", Edges.STATE, c -> c.remove(9, 5, kind, gender));
        }
        List<State> filled = List.of(State.FILLED);
        edges.refusedIn(filled, "remove of one taken away", Edges.STATE, c -> c.remove(1, 0, 2, 0));
        edges.refusedIn(filled, "remove of another class", Edges.STATE, c -> c.remove(0, 0, 1, 0));
        edges.refusedIn(filled, "remove of another gender", Edges.STATE, c -> c.remove(0, 0, 2, 1));
        edges.refusedIn(filled, "remove of another key", Edges.STATE, c -> c.remove(2, 0, 2, 0));
        edges.refusedIn(filled, "remove of another language", Edges.STATE, c -> c.remove(0, 2, 2, 0));
        edges.refusedIn(List.of(State.FULL), "remove with a full past", Edges.STATE, c -> c.remove(0, 0, 2, 2));
        PhraseCatalogue c = new PhraseCatalogue();
        Fill.put(c, 9, 5, 2, 2, 1);
        edges.due("there", 1, () -> c.remove(9, 5, 2, 2));
        edges.refused("its last form taken away", Edges.STATE, () -> c.remove(9, 5, 2, 2));
    }

    private void promise7HowManySigns() {
        edges.of("Promise 7", "Returns how many signs the draft has.");
        PhraseCatalogue c = new PhraseCatalogue();
        edges.due("the empty draft", 0, () -> c.draft());
        for (int many = 1; many <= 8; many++) {
            c.sign(many);
            edges.due("the draft", many, () -> c.draft());
        }
        edges.refused("the ninth", Edges.STATE, () -> c.sign(9));
        edges.due("the full draft", 8, () -> c.draft());
        edges.refused("no such key", Edges.INDEX, () -> c.set(10, 0, 0, 0, true));
        edges.due("the full draft", 8, () -> c.draft());
        c.set(0, 0, 0, 0, true);
        edges.due("the empty draft", 0, () -> c.draft());
        c.remove(0, 0, 0, 0);
        edges.due("what is taken away is no draft", 0, () -> c.draft());
    }
}
