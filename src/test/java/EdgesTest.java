import java.io.IOException;

/** Each sentence of the document that promises an answer, at its edges. */
public final class EdgesTest {
    public static void main(String[] args) throws IOException {
        Edges edges = new Edges();
        new EdgesOfTerms(edges).run();
        new EdgesOfToldAndPastTerms(edges).run();
        new EdgesOfLanguages(edges).run();
        new EdgesOfTexts(edges).run();
        new EdgesOfWhatIsThere(edges).run();
        new EdgesOfTold(edges).run();
        new EdgesOfPast(edges).run();
        edges.everySentenceHasATest();
        edges.end();
    }
}
