import java.io.IOException;
import java.nio.file.Path;

/**
 * Each sentence of the document that names an edge: the last number that is allowed and the first that is not,
 * nothing yet and one too many, the ends of an int, of CENTS and of a DAY, which of two refusals comes first, and
 * that a refused call changes nothing. Each test tells its sentence, which must stand in the document word by word;
 * and no word of the terms and of the promises may be left that no test has told.
 */
final class EdgesTest {
    public static void main(String[] args) throws IOException {
        Path path = Path.of(System.getProperty("vault.document", "../shared/DOC.md"));
        Edges edges = new Edges(new Due("EdgesTest"), new Document(path));
        new QuestionEdges(edges).look();
        new MadeEdges(edges).look();
        new AnswerEdges(edges).look();
        new ConditionEdges(edges).look();
        new TableEdges(edges).look();
        new RankEdges(edges).look();
        new EditionEdges(edges).look();
        new RefusalEdges(edges).look();
        edges.end();
    }
}
