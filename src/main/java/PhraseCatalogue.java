import java.util.ArrayList;
import java.util.Arrays;

/** A catalogue of texts for programs in several languages, as ../shared/DOC.md promises it. */
public final class PhraseCatalogue {
    private static final int NONE = -1;
    private static final int SOURCE = 0;
    private static final int LANGUAGES = 6;
    private static final int KEYS = 10;
    private static final int CLASSES = 3;
    private static final int LAST_CLASS = 2;
    private static final int GENDERS = 3;
    private static final int GENERAL_GENDER = 0;
    private static final int FORMS_OF_A_TEXT = 9;
    private static final int FORM_SLOTS = 540;
    private static final int TEXT_SLOTS = 60;
    private static final int TRIES_IN_A_LANGUAGE = 4;
    private static final int FIRST_NUMBER_LIMIT = 1;
    private static final int HIGHEST_NUMBER_LIMIT = 100;
    private static final int MOST_SIGNS = 8;
    private static final int LAST_WORD = 99;
    private static final int FIRST_PLACEHOLDER = 101;
    private static final int LAST_PLACEHOLDER = 104;
    private static final int MOST_PAIRS = 20;

    /** A form never changes once it is made, so the past can share it with the texts. */
    private static final class Form {
        final int[] signs;
        final boolean mayLack;
        final int placeholders;

        Form(int[] signs, boolean mayLack, int placeholders) {
            this.signs = signs;
            this.mayLack = mayLack;
            this.placeholders = placeholders;
        }
    }

    /** An old form of the source with one translation of it. */
    private static final class Pair {
        final int language;
        final Form old;
        final Form translation;

        Pair(int language, Form old, Form translation) {
            this.language = language;
            this.old = old;
            this.translation = translation;
        }
    }

    private final int[] fallbacks;
    private final int[] onesLimits;
    private final int[] fewLimits;
    private final int[] draftSigns;
    private int draftLength;
    /** All forms by key, language, class and gender; null where there is none. */
    private final Form[] formTable;
    private final int[] sourceVersions;
    /** For each translation the version of its source text at its latest change. */
    private final int[] seenVersions;
    /** The pairs of the past, the earliest one first. */
    private final ArrayList<Pair> past;
    /** One row for all measuring of distances, so that a question makes no new one. */
    private final int[] distanceRow;

    public PhraseCatalogue() {
        fallbacks = new int[LANGUAGES];
        onesLimits = new int[LANGUAGES];
        fewLimits = new int[LANGUAGES];
        Arrays.fill(onesLimits, FIRST_NUMBER_LIMIT);
        Arrays.fill(fewLimits, FIRST_NUMBER_LIMIT);
        draftSigns = new int[MOST_SIGNS];
        draftLength = 0;
        formTable = new Form[FORM_SLOTS];
        sourceVersions = new int[KEYS];
        seenVersions = new int[TEXT_SLOTS];
        past = new ArrayList<Pair>();
        distanceRow = new int[MOST_SIGNS + 1];
    }

    // ---- languages

    public int setFallback(int language, int other) throws IndexOutOfBoundsException, IllegalArgumentException {
        requireLanguage(language);
        requireLanguage(other);
        if (language == SOURCE) {
            throw new IndexOutOfBoundsException("the source falls back on no language");
        }
        if (chainPlace(other, language) != NONE) {
            throw new IllegalArgumentException("the chain would go round");
        }
        int before = fallbacks[language];
        fallbacks[language] = other;
        return before;
    }

    public void setNumbers(int language, int ones, int few) throws IndexOutOfBoundsException, IllegalArgumentException {
        requireLanguage(language);
        requireNumberLimit(ones);
        requireNumberLimit(few);
        onesLimits[language] = ones;
        fewLimits[language] = few;
    }

    // ---- texts

    public int sign(int sign) throws IllegalArgumentException, IllegalStateException {
        if (!isWord(sign) && !isPlaceholder(sign)) {
            throw new IllegalArgumentException("there is no such sign");
        }
        if (draftLength >= MOST_SIGNS) {
            throw new IllegalStateException("the draft is full");
        }
        draftSigns[draftLength] = sign;
        draftLength++;
        return draftLength;
    }

    public int set(int key, int language, int kind, int gender, boolean mayLack) throws IndexOutOfBoundsException, IllegalStateException {
        requireForm(key, language, kind, gender);
        if (draftLength <= 0) {
            throw new IllegalStateException("the draft is empty");
        }
        int[] signs = Arrays.copyOf(draftSigns, draftLength);
        draftLength = 0;
        change(key, language, kind, gender, new Form(signs, mayLack, placeholdersOf(signs)));
        return sourceVersions[key];
    }

    public int remove(int key, int language, int kind, int gender) throws IndexOutOfBoundsException, IllegalStateException {
        requireForm(key, language, kind, gender);
        Form form = formTable[slotOf(key, language, kind, gender)];
        if (form == null) {
            throw new IllegalStateException("the form is not there");
        }
        change(key, language, kind, gender, null);
        return form.signs.length;
    }

    // ---- what is there; nothing from here on changes anything

    public int draft() {
        return draftLength;
    }

    public int kindOf(int language, int number) throws IndexOutOfBoundsException, IllegalArgumentException {
        requireLanguage(language);
        requireNumber(number);
        return classOf(language, number);
    }

    public int forms(int key, int language) throws IndexOutOfBoundsException {
        requireKey(key);
        requireLanguage(language);
        return countForms(key, language);
    }

    public int version(int key) throws IndexOutOfBoundsException {
        requireKey(key);
        return sourceVersions[key];
    }

    public int staleBy(int key, int language) throws IndexOutOfBoundsException {
        requireKey(key);
        requireLanguage(language);
        if (countForms(key, language) == 0) {
            return NONE;
        }
        return language == SOURCE ? 0 : sourceVersions[key] - seenVersions[textOf(key, language)];
    }

    public int missing(int language) throws IndexOutOfBoundsException {
        requireLanguage(language);
        int count = 0;
        for (int key = 0; key < KEYS; key++) {
            if (countForms(key, SOURCE) > 0 && countForms(key, language) == 0) {
                count++;
            }
        }
        return count;
    }

    public boolean fits(int key, int language, int kind, int gender) throws IndexOutOfBoundsException {
        requireForm(key, language, kind, gender);
        return isFitting(key, formTable[slotOf(key, language, kind, gender)]);
    }

    // ---- what is told

    public int toldBy(int key, int language, int number, int gender) throws IndexOutOfBoundsException, IllegalArgumentException {
        requireQuestion(key, language, number, gender);
        return languageOfSlot(findAlongChain(key, language, number, gender));
    }

    public int toldByLooking(int key, int language, int number, int gender) throws IndexOutOfBoundsException, IllegalArgumentException {
        requireQuestion(key, language, number, gender);
        return languageOfSlot(findByLooking(key, language, number, gender));
    }

    public int toldForm(int key, int language, int number, int gender) throws IndexOutOfBoundsException, IllegalArgumentException {
        requireQuestion(key, language, number, gender);
        int slot = findAlongChain(key, language, number, gender);
        return slot == NONE ? NONE : slot % FORMS_OF_A_TEXT;
    }

    public int toldSign(int key, int language, int number, int gender, int place) throws IndexOutOfBoundsException, IllegalArgumentException {
        requireQuestion(key, language, number, gender);
        int slot = findAlongChain(key, language, number, gender);
        Form form = slot == NONE ? null : formTable[slot];
        if (form == null) {
            throw new IndexOutOfBoundsException("nothing is told");
        }
        if (place < 0 || place >= form.signs.length) {
            throw new IndexOutOfBoundsException("the form has no sign at this place");
        }
        return form.signs[place];
    }

    // ---- the past

    public int pairs() {
        return past.size();
    }

    public int nearDistance(int key, int language, int kind, int gender) throws IndexOutOfBoundsException {
        requireForm(key, language, kind, gender);
        Form form = formTable[slotOf(key, SOURCE, kind, gender)];
        Pair near = findNear(form, language);
        return form == null || near == null ? NONE : distance(near.old, form);
    }

    public int nearSign(int key, int language, int kind, int gender, int place) throws IndexOutOfBoundsException {
        requireForm(key, language, kind, gender);
        if (place < 0) {
            throw new IndexOutOfBoundsException("there is no place below 0");
        }
        Pair near = findNear(formTable[slotOf(key, SOURCE, kind, gender)], language);
        return near == null || place >= near.translation.signs.length ? 0 : near.translation.signs[place];
    }

    // ---- what is refused

    private static void requireKey(int key) {
        if (key < 0 || key >= KEYS) {
            throw new IndexOutOfBoundsException("there is no such key");
        }
    }

    private static void requireLanguage(int language) {
        if (language < 0 || language >= LANGUAGES) {
            throw new IndexOutOfBoundsException("there is no such language");
        }
    }

    private static void requireGender(int gender) {
        if (gender < 0 || gender >= GENDERS) {
            throw new IndexOutOfBoundsException("there is no such gender");
        }
    }

    private static void requireForm(int key, int language, int kind, int gender) {
        requireKey(key);
        requireLanguage(language);
        if (kind < 0 || kind >= CLASSES) {
            throw new IndexOutOfBoundsException("there is no such number class");
        }
        requireGender(gender);
    }

    private static void requireNumber(int number) {
        if (number < 0) {
            throw new IllegalArgumentException("a number is not below 0");
        }
    }

    private static void requireNumberLimit(int limit) {
        if (limit < 0 || limit > HIGHEST_NUMBER_LIMIT) {
            throw new IllegalArgumentException("ones and few are 0 to 100");
        }
    }

    /** The number comes last, because the document names its exception last. */
    private static void requireQuestion(int key, int language, int number, int gender) {
        requireKey(key);
        requireLanguage(language);
        requireGender(gender);
        requireNumber(number);
    }

    // ---- signs and places in the table

    private static boolean isWord(int sign) {
        return sign >= 1 && sign <= LAST_WORD;
    }

    private static boolean isPlaceholder(int sign) {
        return sign >= FIRST_PLACEHOLDER && sign <= LAST_PLACEHOLDER;
    }

    /** The placeholders among the signs, one bit for each. */
    private static int placeholdersOf(int[] signs) {
        int bits = 0;
        for (int i = 0; i < signs.length; i++) {
            if (isPlaceholder(signs[i])) {
                bits |= 1 << (signs[i] - FIRST_PLACEHOLDER);
            }
        }
        return bits;
    }

    private static int textOf(int key, int language) {
        return key * LANGUAGES + language;
    }

    private static int slotOf(int key, int language, int kind, int gender) {
        return textOf(key, language) * FORMS_OF_A_TEXT + kind * GENDERS + gender;
    }

    private static int languageOfSlot(int slot) {
        return slot == NONE ? NONE : slot / FORMS_OF_A_TEXT % LANGUAGES;
    }

    // ---- languages and forms

    /** How many steps up its chain a language meets another one; NONE if it never does. */
    private int chainPlace(int language, int other) {
        int at = language;
        for (int step = 0; step < LANGUAGES; step++) {
            if (at == other) {
                return step;
            }
            if (at == SOURCE) {
                return NONE;
            }
            at = fallbacks[at];
        }
        return NONE;
    }

    private int classOf(int language, int number) {
        if (number == 0) {
            return LAST_CLASS;
        }
        if (number <= onesLimits[language]) {
            return 0;
        }
        return number <= fewLimits[language] ? 1 : LAST_CLASS;
    }

    private int countForms(int key, int language) {
        int first = slotOf(key, language, 0, 0);
        int count = 0;
        for (int i = 0; i < FORMS_OF_A_TEXT; i++) {
            if (formTable[first + i] != null) {
                count++;
            }
        }
        return count;
    }

    /** Puts a form, or null to take it away, where an old one may stand. */
    private void change(int key, int language, int kind, int gender, Form form) {
        int slot = slotOf(key, language, kind, gender);
        if (language == SOURCE) {
            // The pairs hold the translations as they are before this change.
            keepPairs(key, kind, gender, formTable[slot]);
            sourceVersions[key]++;
        } else {
            seenVersions[textOf(key, language)] = sourceVersions[key];
        }
        formTable[slot] = form;
    }

    private int sourcePlaceholders(int key) {
        int first = slotOf(key, SOURCE, 0, 0);
        int bits = 0;
        for (int i = 0; i < FORMS_OF_A_TEXT; i++) {
            Form form = formTable[first + i];
            if (form != null) {
                bits |= form.placeholders;
            }
        }
        return bits;
    }

    private boolean isFitting(int key, Form form) {
        if (form == null) {
            return false;
        }
        int due = sourcePlaceholders(key);
        boolean hasStrange = (form.placeholders & ~due) != 0;
        boolean lacks = (due & ~form.placeholders) != 0;
        return !hasStrange && (!lacks || form.mayLack);
    }

    // ---- two ways to what is told

    private int findAlongChain(int key, int language, int number, int gender) {
        int at = language;
        for (int step = 0; step < LANGUAGES; step++) {
            int slot = findInLanguage(key, at, number, gender);
            if (slot != NONE || at == SOURCE) {
                return slot;
            }
            at = fallbacks[at];
        }
        return NONE;
    }

    private int findInLanguage(int key, int language, int number, int gender) {
        int slot = findInClass(key, language, classOf(language, number), gender);
        return slot != NONE ? slot : findInClass(key, language, LAST_CLASS, gender);
    }

    private int findInClass(int key, int language, int kind, int gender) {
        int own = slotOf(key, language, kind, gender);
        if (isFitting(key, formTable[own])) {
            return own;
        }
        int general = slotOf(key, language, kind, GENERAL_GENDER);
        return isFitting(key, formTable[general]) ? general : NONE;
    }

    private int findByLooking(int key, int language, int number, int gender) {
        int best = NONE;
        int bestTurn = LANGUAGES * TRIES_IN_A_LANGUAGE;
        int first = slotOf(key, SOURCE, 0, 0);
        for (int i = 0; i < LANGUAGES * FORMS_OF_A_TEXT; i++) {
            int turn = turnOf(first + i, language, number, gender);
            if (turn != NONE && turn < bestTurn && isFitting(key, formTable[first + i])) {
                best = first + i;
                bestTurn = turn;
            }
        }
        return best;
    }

    /** When a slot is tried for a question, counted from the first try; NONE if it never is. */
    private int turnOf(int slot, int language, int number, int gender) {
        int other = languageOfSlot(slot);
        int inChain = chainPlace(language, other);
        if (inChain == NONE) {
            return NONE;
        }
        int form = slot % FORMS_OF_A_TEXT;
        int inLanguage = tryOf(form / GENDERS, form % GENDERS, classOf(other, number), gender);
        return inLanguage == NONE ? NONE : inChain * TRIES_IN_A_LANGUAGE + inLanguage;
    }

    private static int tryOf(int kind, int gender, int askedKind, int askedGender) {
        if (kind != askedKind && kind != LAST_CLASS || gender != askedGender && gender != GENERAL_GENDER) {
            return NONE;
        }
        return (kind == askedKind ? 0 : 2) + (gender == askedGender ? 0 : 1);
    }

    // ---- the past

    private void keepPairs(int key, int kind, int gender, Form old) {
        if (old == null) {
            return;
        }
        for (int language = SOURCE + 1; language < LANGUAGES; language++) {
            Form translation = formTable[slotOf(key, language, kind, gender)];
            if (translation != null) {
                keepPair(new Pair(language, old, translation));
            }
        }
    }

    private void keepPair(Pair pair) {
        if (past.size() >= MOST_PAIRS) {
            past.remove(0);
        }
        past.add(pair);
    }

    /** The near pair of a language for a form; null if there is none, or no form. */
    private Pair findNear(Form form, int language) {
        if (form == null) {
            return null;
        }
        Pair near = null;
        int least = form.signs.length / 2;
        for (int i = 0; i < past.size(); i++) {
            Pair pair = past.get(i);
            if (pair.language == language) {
                int far = distance(pair.old, form);
                // Of several with the same distance the latest one is near.
                if (far <= least) {
                    least = far;
                    near = pair;
                }
            }
        }
        return near;
    }

    /** The row holds the distances of what has been read of one form to each beginning of the other. */
    private int distance(Form from, Form to) {
        for (int j = 0; j <= to.signs.length; j++) {
            distanceRow[j] = j;
        }
        for (int i = 0; i < from.signs.length; i++) {
            int diagonal = distanceRow[0];
            distanceRow[0] = i + 1;
            for (int j = 0; j < to.signs.length; j++) {
                int replaced = diagonal + (from.signs[i] == to.signs[j] ? 0 : 1);
                diagonal = distanceRow[j + 1];
                distanceRow[j + 1] = Math.min(replaced, 1 + Math.min(diagonal, distanceRow[j]));
            }
        }
        return distanceRow[to.signs.length];
    }
}
