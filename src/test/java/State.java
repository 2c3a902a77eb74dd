import java.util.List;

/** States of an object in which calls are tried; a filled and a full one have their edges on the least and the last. */
enum State {
    NEW {
        @Override
        void reach(PhraseCatalogue c) {
            // A new object is one already.
        }
    },
    /** A draft, some texts, a past with room. */
    FILLED {
        @Override
        void reach(PhraseCatalogue c) {
            c.setFallback(2, 1);
            c.setFallback(3, 2);
            c.setNumbers(1, 2, 4);
            Fill.put(c, 0, 0, 2, 0, 1, 2, 101);
            Fill.put(c, 0, 0, 0, 1, 1, 101);
            Fill.put(c, 0, 1, 2, 0, 7, 101);
            Fill.put(c, 0, 1, 0, 0, true, 6);
            Fill.put(c, 0, 3, 2, 0, 101, 8);
            Fill.put(c, 0, 0, 2, 0, 1, 3, 101);
            Fill.put(c, 1, 0, 2, 0, 1, 3);
            Fill.put(c, 1, 5, 2, 0, 9);
            c.remove(1, 0, 2, 0);
            Fill.draft(c, 5, 102, 6);
        }
    },
    /** A full draft, a text with all forms, the longest chain, and so many pairs that the next one pushes one out. */
    FULL {
        @Override
        void reach(PhraseCatalogue c) {
            for (int language = 1; language < 5; language++) {
                c.setFallback(language, language + 1);
            }
            c.setNumbers(0, 0, 100);
            c.setNumbers(5, 100, 100);
            for (int form = 0; form < 9; form++) {
                Fill.put(c, 9, 0, form / 3, form % 3, 10 + form);
            }
            Fill.put(c, 0, 0, 0, 0, 1, 2, 3, 4, 5, 6, 7, 104);
            Fill.put(c, 0, 5, 0, 0, 104, 17, 16, 15, 14, 13, 12, 11);
            Fill.put(c, 0, 0, 0, 0, 1, 2, 3, 4, 5, 6, 7, 104);
            for (int language = 1; language < 6; language++) {
                Fill.put(c, 9, language, 2, 2, 90 + language);
            }
            for (int change = 0; change < 3; change++) {
                Fill.put(c, 9, 0, 2, 2, 50 + change, 1, 2, 3);
            }
            c.remove(9, 1, 2, 2);
            Fill.put(c, 9, 0, 2, 2, 53, 1, 2, 3);
            Fill.draft(c, 99, 1, 104, 101, 102, 103, 98, 2);
        }
    };

    private List<String> answers;

    /** Brings a new object into this state. */
    abstract void reach(PhraseCatalogue c);

    /** What the questions answer in this state. */
    List<String> answers() {
        if (answers == null) {
            answers = Snapshot.after(c -> reach(c));
        }
        return answers;
    }
}
