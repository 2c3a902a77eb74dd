/** Whole uses of an object, 512 calls of all kinds; each answer on the way compared with the model's. */
public final class ModelTest {
    private static final int RUNS = 400;
    private static final int CALLS_OF_AN_OBJECT = 512;

    public static void main(String[] args) {
        Check check = new Check();
        for (int run = 0; run < RUNS; run++) {
            Steps steps = new Steps(run);
            Model m = new Model();
            PhraseCatalogue c = new PhraseCatalogue();
            for (int call = 1; call <= CALLS_OF_AN_OBJECT; call++) {
                Step step = steps.any();
                check.compare("run " + run + ", call " + call + ": " + step.what(), step.dueFrom(m), step.answerOf(c));
            }
        }
        check.end();
    }
}
