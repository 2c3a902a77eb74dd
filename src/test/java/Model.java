import java.util.ArrayList;
import java.util.HashSet;
import java.util.List;
import java.util.Set;
import java.util.TreeSet;

/** The document read once more, over a log of all changes that is gone through anew for each question. */
final class Model {
    private record Change(int key, int language, int kind, int gender, List<Integer> signs, boolean mayLack) {
        boolean isOf(int otherKey, int otherLanguage) {
            return key == otherKey && language == otherLanguage;
        }

        boolean isAt(int otherKey, int otherLanguage, int otherKind, int otherGender) {
            return isOf(otherKey, otherLanguage) && kind == otherKind && gender == otherGender;
        }
    }

    private record Kept(int language, List<Integer> old, List<Integer> translation) {
    }

    private record Told(int language, int kind, int gender, List<Integer> signs) {
    }

    private final List<Change> log = new ArrayList<>();
    private final int[] fallback = new int[6];
    private final int[][] numbers = {{1, 1}, {1, 1}, {1, 1}, {1, 1}, {1, 1}, {1, 1}};
    private List<Integer> signsOfDraft = new ArrayList<>();

    Model copy() {
        Model other = new Model();
        other.log.addAll(log);
        for (int language = 0; language < 6; language++) {
            other.fallback[language] = fallback[language];
            other.numbers[language] = numbers[language];
        }
        other.signsOfDraft.addAll(signsOfDraft);
        return other;
    }

    private static void index(boolean there) {
        if (!there) {
            throw new IndexOutOfBoundsException();
        }
    }

    private static void argument(boolean good) {
        if (!good) {
            throw new IllegalArgumentException();
        }
    }

    private static void state(boolean good) {
        if (!good) {
            throw new IllegalStateException();
        }
    }

    private static boolean within(int value, int low, int high) {
        return low <= value && value <= high;
    }

    private static void place(int key, int language, int kind, int gender) {
        index(within(key, 0, 9) && within(language, 0, 5) && within(kind, 0, 2) && within(gender, 0, 2));
    }

    private List<Integer> chain(int language) {
        List<Integer> all = new ArrayList<>(List.of(language));
        while (all.get(all.size() - 1) != 0) {
            all.add(fallback[all.get(all.size() - 1)]);
        }
        return all;
    }

    int setFallback(int language, int other) {
        index(within(language, 1, 5) && within(other, 0, 5));
        argument(!chain(other).contains(language));
        int before = fallback[language];
        fallback[language] = other;
        return before;
    }

    Object setNumbers(int language, int ones, int few) {
        index(within(language, 0, 5));
        argument(within(ones, 0, 100) && within(few, 0, 100));
        numbers[language] = new int[] {ones, few};
        return null;
    }

    int sign(int sign) {
        argument(within(sign, 1, 104) && sign != 100);
        state(signsOfDraft.size() < 8);
        signsOfDraft.add(sign);
        return signsOfDraft.size();
    }

    int set(int key, int language, int kind, int gender, boolean mayLack) {
        place(key, language, kind, gender);
        state(!signsOfDraft.isEmpty());
        log.add(new Change(key, language, kind, gender, signsOfDraft, mayLack));
        signsOfDraft = new ArrayList<>();
        return version(key);
    }

    int remove(int key, int language, int kind, int gender) {
        place(key, language, kind, gender);
        Change old = latest(log, key, language, kind, gender);
        state(old != null);
        log.add(new Change(key, language, kind, gender, null, false));
        return old.signs().size();
    }

    /** The form of a place at the end of a part of the log; null if there is none. */
    private static Change latest(List<Change> part, int key, int language, int kind, int gender) {
        for (int i = part.size() - 1; i >= 0; i--) {
            if (part.get(i).isAt(key, language, kind, gender)) {
                return part.get(i).signs() == null ? null : part.get(i);
            }
        }
        return null;
    }

    int draft() {
        return signsOfDraft.size();
    }

    int kindOf(int language, int number) {
        index(within(language, 0, 5));
        argument(number >= 0);
        if (number != 0 && number <= numbers[language][0]) {
            return 0;
        }
        return number != 0 && number <= numbers[language][1] ? 1 : 2;
    }

    private List<Change> text(int key, int language) {
        List<Change> all = new ArrayList<>();
        for (int form = 0; form < 9; form++) {
            Change there = latest(log, key, language, form / 3, form % 3);
            if (there != null) {
                all.add(there);
            }
        }
        return all;
    }

    int forms(int key, int language) {
        index(within(key, 0, 9) && within(language, 0, 5));
        return text(key, language).size();
    }

    int version(int key) {
        index(within(key, 0, 9));
        return (int) log.stream().filter(change -> change.isOf(key, 0)).count();
    }

    int staleBy(int key, int language) {
        index(within(key, 0, 9) && within(language, 0, 5));
        if (text(key, language).isEmpty()) {
            return -1;
        }
        int since = 0;
        for (int i = log.size() - 1; i >= 0 && !log.get(i).isOf(key, language); i--) {
            since += log.get(i).isOf(key, 0) ? 1 : 0;
        }
        return since;
    }

    int missing(int language) {
        index(within(language, 0, 5));
        Set<Integer> keys = new HashSet<>();
        for (int key = 0; key < 10; key++) {
            if (!text(key, 0).isEmpty() && text(key, language).isEmpty()) {
                keys.add(key);
            }
        }
        return keys.size();
    }

    private static Set<Integer> placeholders(List<Change> forms) {
        Set<Integer> all = new TreeSet<>();
        for (Change form : forms) {
            form.signs().stream().filter(sign -> sign > 100).forEach(all::add);
        }
        return all;
    }

    boolean fits(int key, int language, int kind, int gender) {
        place(key, language, kind, gender);
        Change form = latest(log, key, language, kind, gender);
        if (form == null) {
            return false;
        }
        Set<Integer> due = placeholders(text(key, 0));
        Set<Integer> own = placeholders(List.of(form));
        return due.containsAll(own) && (form.mayLack() || own.containsAll(due));
    }

    private Told told(int key, int language, int number, int gender) {
        index(within(key, 0, 9) && within(language, 0, 5) && within(gender, 0, 2));
        argument(number >= 0);
        for (int at : chain(language)) {
            int own = kindOf(at, number);
            for (int[] tried : new int[][] {{own, gender}, {own, 0}, {2, gender}, {2, 0}}) {
                if (fits(key, at, tried[0], tried[1])) {
                    return new Told(at, tried[0], tried[1], latest(log, key, at, tried[0], tried[1]).signs());
                }
            }
        }
        return null;
    }

    int toldBy(int key, int language, int number, int gender) {
        Told told = told(key, language, number, gender);
        return told == null ? -1 : told.language();
    }

    int toldForm(int key, int language, int number, int gender) {
        Told told = told(key, language, number, gender);
        return told == null ? -1 : 3 * told.kind() + told.gender();
    }

    int toldSign(int key, int language, int number, int gender, int place) {
        Told told = told(key, language, number, gender);
        index(told != null && within(place, 0, told.signs().size() - 1));
        return told.signs().get(place);
    }

    private List<Kept> kept() {
        List<Kept> all = new ArrayList<>();
        for (int i = 0; i < log.size(); i++) {
            Change change = log.get(i);
            List<Change> before = log.subList(0, i);
            Change old = latest(before, change.key(), 0, change.kind(), change.gender());
            for (int language = 1; language < 6 && change.language() == 0 && old != null; language++) {
                Change translation = latest(before, change.key(), language, change.kind(), change.gender());
                if (translation != null) {
                    all.add(new Kept(language, old.signs(), translation.signs()));
                }
            }
        }
        return all.subList(Math.max(0, all.size() - 20), all.size());
    }

    int pairs() {
        return kept().size();
    }

    private static int distance(List<Integer> a, List<Integer> b) {
        int[][] far = new int[a.size() + 1][b.size() + 1];
        for (int i = 0; i <= a.size(); i++) {
            for (int j = 0; j <= b.size(); j++) {
                if (i == 0 || j == 0) {
                    far[i][j] = i + j;
                } else {
                    int replaced = far[i - 1][j - 1] + (a.get(i - 1).equals(b.get(j - 1)) ? 0 : 1);
                    far[i][j] = Math.min(replaced, 1 + Math.min(far[i - 1][j], far[i][j - 1]));
                }
            }
        }
        return far[a.size()][b.size()];
    }

    private Kept near(int key, int language, int kind, int gender) {
        Change form = latest(log, key, 0, kind, gender);
        if (form == null) {
            return null;
        }
        List<Kept> all = kept();
        for (int far = 0; far <= form.signs().size() / 2; far++) {
            for (int i = all.size() - 1; i >= 0; i--) {
                if (all.get(i).language() == language && distance(all.get(i).old(), form.signs()) == far) {
                    return all.get(i);
                }
            }
        }
        return null;
    }

    int nearDistance(int key, int language, int kind, int gender) {
        place(key, language, kind, gender);
        Kept near = near(key, language, kind, gender);
        return near == null ? -1 : distance(latest(log, key, 0, kind, gender).signs(), near.old());
    }

    int nearSign(int key, int language, int kind, int gender, int place) {
        place(key, language, kind, gender);
        index(place >= 0);
        Kept near = near(key, language, kind, gender);
        return near == null || place >= near.translation().size() ? 0 : near.translation().get(place);
    }
}
