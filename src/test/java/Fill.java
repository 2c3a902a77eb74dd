/** Short ways to bring an object into a state. */
final class Fill {
    private Fill() {
    }

    /** Adds the signs to the draft and sets a form to it; the version that set answers. */
    static int put(PhraseCatalogue c, int key, int language, int kind, int gender, boolean mayLack, int... signs) {
        draft(c, signs);
        return c.set(key, language, kind, gender, mayLack);
    }

    static int put(PhraseCatalogue c, int key, int language, int kind, int gender, int... signs) {
        return put(c, key, language, kind, gender, false, signs);
    }

    static void draft(PhraseCatalogue c, int... signs) {
        for (int sign : signs) {
            c.sign(sign);
        }
    }

    static Object numbers(PhraseCatalogue c, int language, int ones, int few) {
        c.setNumbers(language, ones, few);
        return null;
    }
}
