import java.util.List;
import java.util.function.Consumer;

/** A call that throws an exception changes nothing; a question changes nothing either. */
public final class RefusedCallsTest {
    private static final Check CHECK = new Check();
    private static final List<Consumer<PhraseCatalogue>> REFUSED = List.of(
        c -> c.setFallback(0, 1), c -> c.setFallback(6, 1), c -> c.setFallback(1, 6), c -> c.setFallback(-1, 0),
        c -> c.setFallback(1, 1), c -> c.setFallback(1, 2), c -> c.setFallback(1, -1),
        c -> c.setNumbers(6, 50, 60), c -> c.setNumbers(-1, 50, 60), c -> c.setNumbers(1, 50, 101),
        c -> c.setNumbers(1, 101, 50), c -> c.setNumbers(1, -1, 50), c -> c.setNumbers(1, 50, -1),
        c -> c.sign(0), c -> c.sign(100), c -> c.sign(105), c -> c.sign(-1),
        c -> c.set(10, 0, 0, 0, true), c -> c.set(-1, 0, 0, 0, true), c -> c.set(0, 6, 0, 0, true),
        c -> c.set(0, -1, 0, 0, true), c -> c.set(0, 0, 3, 0, true), c -> c.set(0, 0, -1, 0, true),
        c -> c.set(0, 0, 0, 3, true), c -> c.set(0, 0, 0, -1, true),
        c -> c.remove(10, 0, 0, 0), c -> c.remove(0, 6, 0, 0), c -> c.remove(0, 0, 3, 0), c -> c.remove(0, 0, 0, 3),
        c -> c.remove(9, 0, 0, 0), c -> c.remove(0, 4, 2, 0), c -> c.remove(0, 0, 1, 2),
        c -> c.kindOf(6, 0), c -> c.kindOf(0, -1), c -> c.forms(10, 0), c -> c.version(10), c -> c.staleBy(0, 6),
        c -> c.missing(6), c -> c.fits(0, 0, 0, 3), c -> c.toldBy(0, 0, -1, 0), c -> c.toldByLooking(0, 0, -1, 0),
        c -> c.toldForm(0, 0, -1, 0), c -> c.toldSign(0, 0, -1, 0, 0), c -> c.toldSign(0, 0, 9, 0, 8),
        c -> c.toldSign(8, 0, 9, 0, 0), c -> c.nearDistance(10, 0, 0, 0), c -> c.nearSign(0, 1, 2, 0, -1));
    private static final List<Consumer<PhraseCatalogue>> QUESTIONS = List.of(
        c -> c.draft(), c -> c.kindOf(1, 3), c -> c.forms(0, 0), c -> c.version(0), c -> c.staleBy(0, 1),
        c -> c.missing(4), c -> c.fits(0, 1, 2, 0), c -> c.toldBy(0, 3, 9, 1), c -> c.toldByLooking(0, 3, 9, 1),
        c -> c.toldForm(0, 3, 9, 1), c -> c.toldSign(0, 3, 9, 1, 0), c -> c.pairs(),
        c -> c.nearDistance(0, 1, 2, 0), c -> c.nearSign(0, 1, 2, 0, 0));

    public static void main(String[] args) {
        for (Consumer<PhraseCatalogue> state : List.<Consumer<PhraseCatalogue>>of(c -> filled(c), c -> full(c))) {
            List<String> before = Snapshot.after(state);
            for (int i = 0; i < REFUSED.size(); i++) {
                changesNothing("refused call " + i, before, state, REFUSED.get(i), true);
            }
            for (int i = 0; i < QUESTIONS.size(); i++) {
                changesNothing("question " + i, before, state, QUESTIONS.get(i), false);
            }
        }
        fullAndEmptyDrafts();
        CHECK.end();
    }

    private static void filled(PhraseCatalogue c) {
        c.setFallback(2, 1);
        c.setFallback(3, 2);
        c.setNumbers(1, 2, 4);
        Fill.put(c, 0, 0, 2, 0, 1, 2, 101);
        Fill.put(c, 0, 0, 0, 1, 1, 101);
        Fill.put(c, 0, 1, 2, 0, 7, 101);
        Fill.put(c, 0, 1, 0, 0, true, 6);
        Fill.put(c, 0, 3, 2, 0, 101, 8);
        Fill.put(c, 0, 0, 2, 0, 1, 3, 101);
        Fill.put(c, 1, 0, 2, 0, 1, 3);
        Fill.put(c, 1, 5, 2, 0, 9);
        c.remove(1, 0, 2, 0);
        Fill.draft(c, 5, 102, 6);
    }

    /** So many pairs that the next one would push out the earliest. */
    private static void full(PhraseCatalogue c) {
        filled(c);
        c.set(9, 3, 2, 0, true);
        for (int i = 0; i < 9; i++) {
            Fill.put(c, 0, 0, 2, 0, 1, 10 + i, 101);
        }
        Fill.draft(c, 1, 2, 3, 4, 5);
    }

    private static void changesNothing(String what, List<String> before, Consumer<PhraseCatalogue> state,
            Consumer<PhraseCatalogue> call, boolean refused) {
        List<String> after = Snapshot.after(c -> {
            state.accept(c);
            boolean threw = false;
            try {
                call.accept(c);
            } catch (RuntimeException thrown) {
                threw = true;
            }
            CHECK.compare(what + " throws", String.valueOf(refused), String.valueOf(threw));
        });
        for (int i = 0; i < before.size() || i < after.size(); i++) {
            CHECK.compare(what + " changes", at(before, i), at(after, i));
        }
    }

    private static String at(List<String> answers, int i) {
        return i < answers.size() ? answers.get(i) : "nothing";
    }

    private static void fullAndEmptyDrafts() {
        Consumer<PhraseCatalogue> eight = c -> Fill.draft(c, 1, 2, 3, 4, 5, 6, 7, 8);
        changesNothing("ninth sign", Snapshot.after(eight), eight, c -> c.sign(9), true);
        changesNothing("wrong ninth sign", Snapshot.after(eight), eight, c -> c.sign(100), true);
        Consumer<PhraseCatalogue> withoutDraft = c -> {
            Fill.put(c, 0, 0, 2, 0, 1);
            Fill.put(c, 0, 1, 2, 0, 1);
        };
        List<String> before = Snapshot.after(withoutDraft);
        changesNothing("set without a draft", before, withoutDraft, c -> c.set(0, 0, 2, 0, true), true);
        changesNothing("set without a draft", before, withoutDraft, c -> c.set(0, 1, 2, 0, true), true);
        changesNothing("set where nothing is", before, withoutDraft, c -> c.set(10, 1, 2, 0, true), true);
    }
}
