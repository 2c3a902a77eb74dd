import java.util.function.Function;

/** One call with its arguments: as the model answers it, and as the class does. */
record Step(String what, Function<Model, Object> due, Function<PhraseCatalogue, Object> call) {
    String dueFrom(Model m) {
        return Check.outcome(() -> due.apply(m));
    }

    String answerOf(PhraseCatalogue c) {
        return Check.outcome(() -> call.apply(c));
    }
}
