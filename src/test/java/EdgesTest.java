import java.io.IOException;
import java.nio.file.Path;

/** Each sentence of the document that names a boundary case, with a test of its own. */
public final class EdgesTest {
    public static void main(String[] args) throws IOException {
        Sentences sentences = new Sentences(Path.of("../shared/DOC.md"));
        new EdgesOfTexts(sentences).all();
        new EdgesOfDraws(sentences).all();
        new EdgesOfActs(sentences).all();
        new EdgesOfComing(sentences).all();
        new EdgesOfSights(sentences).all();
        new EdgesOfChances(sentences).all();
        new EdgesOfKept(sentences).all();
        sentences.end();
    }
}
