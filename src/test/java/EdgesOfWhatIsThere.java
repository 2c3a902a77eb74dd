/** The edges of promises 9 to 13: forms, version, staleBy, missing, fits. */
final class EdgesOfWhatIsThere {
    /** A question of a text. */
    private interface OfText {
        Object answer(PhraseCatalogue c, int key, int language);
    }

    private final Edges edges;

    EdgesOfWhatIsThere(Edges edges) {
        this.edges = edges;
    }

    void run() {
        promise9HowManyForms();
        promise9NoSuchKeyOrLanguage();
        promise10TheVersion();
        promise10NoSuchKey();
        promise11ByHowManyVersions();
        promise11NoSuchText();
        promise11NoSuchKeyOrLanguage();
        promise12HowManyKeys();
        promise12NoSuchLanguage();
        promise13WhetherAFormFits();
        promise13NotThere();
        promise13NoSuchPlace();
    }

    private void refusesNoTexts(String what, OfText call) {
        for (int i = 0; i < Edges.NO_KEYS.length; i++) {
            int key = Edges.NO_KEYS[i];
            int language = Edges.NO_LANGUAGES[i];
            edges.refusedInAll(what + " of the key " + key, Edges.INDEX, c -> call.answer(c, key, 0));
            edges.refusedInAll(what + " of the key " + key, Edges.INDEX, c -> call.answer(c, key, 5));
            edges.refusedInAll(what + " of the language " + language, Edges.INDEX, c -> call.answer(c, 0, language));
            edges.refusedInAll(what + " of the language " + language, Edges.INDEX, c -> call.answer(c, 9, language));
            edges.refusedInAll(what + " of both of turn " + i, Edges.INDEX, c -> call.answer(c, key, language));
        }
    }

    private void promise9HowManyForms() {
        edges.of("Promise 9", "Returns how many forms a text has.");
        for (int key : new int[] {0, 9}) {
            for (int language : new int[] {0, 5}) {
                fromNoneToNineAndBack(new PhraseCatalogue(), key, language);
            }
        }
    }

    private void fromNoneToNineAndBack(PhraseCatalogue c, int key, int language) {
        for (int form = 0; form < 9; form++) {
            int many = form;
            edges.due("forms", many, () -> c.forms(key, language));
            Fill.put(c, key, language, form / 3, form % 3, 1);
            edges.due("forms of another key", 0, () -> c.forms(9 - key, language));
            edges.due("forms of another language", 0, () -> c.forms(key, 5 - language));
        }
        edges.due("all forms", 9, () -> c.forms(key, language));
        Fill.put(c, key, language, 2, 2, 2);
        edges.due("one of them anew", 9, () -> c.forms(key, language));
        for (int form = 0; form < 9; form++) {
            int left = 8 - form;
            c.remove(key, language, form / 3, form % 3);
            edges.due("forms that are left", left, () -> c.forms(key, language));
        }
    }

    private void promise9NoSuchKeyOrLanguage() {
        edges.of("Promise 9", "if there is no such key or language");
        refusesNoTexts("forms", (c, key, language) -> c.forms(key, language));
    }

    private void promise10TheVersion() {
        edges.of("Promise 10", "Returns the version of the source text of a key.");
        for (int key : new int[] {0, 9}) {
            PhraseCatalogue c = new PhraseCatalogue();
            edges.due("no source text yet", 0, () -> c.version(key));
            Fill.put(c, key, 5, 0, 0, 1);
            edges.due("a translation alone", 0, () -> c.version(key));
            Fill.put(c, key, 0, 0, 0, 1);
            edges.due("the first form", 1, () -> c.version(key));
            Fill.put(c, key, 0, 2, 2, 1);
            edges.due("another form", 2, () -> c.version(key));
            c.remove(key, 0, 0, 0);
            c.remove(key, 0, 2, 2);
            edges.due("the last form taken away", 4, () -> c.version(key));
            edges.due("another key", 0, () -> c.version(9 - key));
        }
    }

    private void promise10NoSuchKey() {
        edges.of("Promise 10", "if there is no such key");
        for (int key : Edges.NO_KEYS) {
            edges.refusedInAll("the version of " + key, Edges.INDEX, c -> c.version(key));
        }
    }

    private void promise11ByHowManyVersions() {
        edges.of("Promise 11", "Returns by how many versions a translation is stale.", "Returns the versions;");
        PhraseCatalogue c = new PhraseCatalogue();
        Fill.put(c, 9, 0, 1, 1, 1);
        Fill.put(c, 9, 5, 1, 1, 1);
        for (int since = 0; since < 20; since++) {
            int due = since;
            edges.due("stale by", due, () -> c.staleBy(9, 5));
            Fill.put(c, 9, 0, since % 3, since / 3 % 3, 1);
        }
        Fill.put(c, 9, 4, 0, 0, 1);
        edges.due("another translation's change", 20, () -> c.staleBy(9, 5));
        Fill.put(c, 8, 5, 0, 0, 1);
        edges.due("another key's change", 20, () -> c.staleBy(9, 5));
        Fill.put(c, 9, 5, 0, 0, 1);
        edges.due("its own change", 0, () -> c.staleBy(9, 5));
    }

    private void promise11NoSuchText() {
        edges.of("Promise 11", "-1 if there is no such text, of the source, too; otherwise 0 for the source");
        PhraseCatalogue c = new PhraseCatalogue();
        for (int language = 0; language < 6; language++) {
            int l = language;
            edges.due("no text in " + l, -1, () -> c.staleBy(0, l));
        }
        Fill.put(c, 0, 0, 2, 0, 1);
        edges.due("the source", 0, () -> c.staleBy(0, 0));
        edges.due("no translation", -1, () -> c.staleBy(0, 5));
        Fill.put(c, 0, 5, 0, 0, 1);
        Fill.put(c, 0, 0, 2, 0, 1);
        edges.due("the source, changed", 0, () -> c.staleBy(0, 0));
        c.remove(0, 0, 2, 0);
        edges.due("the source, its last form taken away", -1, () -> c.staleBy(0, 0));
        edges.due("a translation without its source", 2, () -> c.staleBy(0, 5));
        c.remove(0, 5, 0, 0);
        edges.due("a translation, its last form taken away", -1, () -> c.staleBy(0, 5));
        Fill.put(c, 0, 0, 2, 0, 1);
        edges.due("the source, there again", 0, () -> c.staleBy(0, 0));
    }

    private void promise11NoSuchKeyOrLanguage() {
        edges.of("Promise 11", "if there is no such key or language");
        refusesNoTexts("staleBy", (c, key, language) -> c.staleBy(key, language));
    }

    private void promise12HowManyKeys() {
        edges.of("Promise 12", "Returns how many keys have a source text, and no text in a language.");
        PhraseCatalogue c = new PhraseCatalogue();
        edges.due("none", 0, () -> c.missing(5));
        for (int key = 0; key < 10; key++) {
            int many = key + 1;
            Fill.put(c, key, 0, key % 3, key % 2, 1);
            edges.due("one more of the source", many, () -> c.missing(1));
            edges.due("one more of the source", many, () -> c.missing(5));
            edges.due("the source itself", 0, () -> c.missing(0));
        }
        for (int key = 0; key < 10; key++) {
            int left = 9 - key;
            Fill.put(c, key, 5, 2, 2, 1);
            edges.due("one translation more", left, () -> c.missing(5));
            edges.due("of another language", 10, () -> c.missing(1));
        }
        c.remove(9, 5, 2, 2);
        edges.due("the last form of a translation taken away", 1, () -> c.missing(5));
        c.remove(9, 0, 0, 1);
        edges.due("the last form of its source taken away, too", 0, () -> c.missing(5));
        c.remove(0, 0, 0, 0);
        edges.due("a translation without a source", 0, () -> c.missing(5));
        edges.due("of another language", 8, () -> c.missing(1));
    }

    private void promise12NoSuchLanguage() {
        edges.of("Promise 12", "if there is no such language");
        for (int none : Edges.NO_LANGUAGES) {
            edges.refusedInAll("missing of " + none, Edges.INDEX, c -> c.missing(none));
        }
    }

    private void promise13WhetherAFormFits() {
        edges.of("Promise 13", "Tells whether a form fits.", "Returns whether it does;");
        for (int key : new int[] {0, 9}) {
            for (int language : new int[] {1, 5}) {
                for (int form = 0; form < 9; form++) {
                    PhraseCatalogue c = new PhraseCatalogue();
                    int kind = form / 3;
                    int gender = form % 3;
                    Fill.put(c, key, 0, 1, 1, 104);
                    Fill.put(c, key, language, kind, gender, 104);
                    edges.due("has it", true, () -> c.fits(key, language, kind, gender));
                    Fill.put(c, key, language, kind, gender, 101, 104);
                    edges.due("has a strange one", false, () -> c.fits(key, language, kind, gender));
                    Fill.put(c, key, language, kind, gender, 1);
                    edges.due("lacks it", false, () -> c.fits(key, language, kind, gender));
                }
            }
        }
    }

    private void promise13NotThere() {
        edges.of("Promise 13", "false if it is not there");
        PhraseCatalogue c = new PhraseCatalogue();
        edges.due("nothing is there", false, () -> c.fits(0, 0, 0, 0));
        Fill.put(c, 0, 5, 2, 2, true, 1);
        edges.due("there", true, () -> c.fits(0, 5, 2, 2));
        edges.due("another gender", false, () -> c.fits(0, 5, 2, 1));
        edges.due("another class", false, () -> c.fits(0, 5, 1, 2));
        edges.due("another language", false, () -> c.fits(0, 4, 2, 2));
        edges.due("another key", false, () -> c.fits(1, 5, 2, 2));
        c.remove(0, 5, 2, 2);
        edges.due("taken away", false, () -> c.fits(0, 5, 2, 2));
    }

    private void promise13NoSuchPlace() {
        edges.of("Promise 13", "if there is no such key, language, class or gender");
        edges.refusesNoPlaces("fits", (c, key, language, kind, gender) -> c.fits(key, language, kind, gender));
    }
}
