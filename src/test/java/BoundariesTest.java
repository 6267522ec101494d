import java.nio.file.Path;

/** Each sentence of the document, with the boundary cases that it names; answers are reckoned by hand. */
public final class BoundariesTest {
    public static void main(String[] args) throws Exception {
        Sentences sentences = new Sentences(Path.of("../shared/DOC.md"));
        new TermsEdges(sentences).all();
        new TextEdges(sentences).all();
        new DaysEdges(sentences).all();
        new DoorsEdges(sentences).all();
        new WheelsEdges(sentences).all();
        new SeenEdges(sentences).all();
        new SheetsEdges(sentences).all();
        sentences.finish("BoundariesTest");
    }
}
