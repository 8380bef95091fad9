import java.io.IOException;

/** Each sentence of the document by a test of its own: on both sides of each edge that it names. */
public final class EdgesTest {
    public static void main(String[] args) throws IOException {
        Doc doc = new Doc("../shared/DOC.md");
        new EdgesOfTerms(doc).test();
        new EdgesOfRows(doc).test();
        new EdgesOfTexts(doc).test();
        new EdgesOfActs(doc).test();
        new EdgesOfForetold(doc).test();
        new EdgesOfOrders(doc).test();
        new EdgesOfAsks(doc).test();
        doc.checkThatAllIsMarked();
        Check.end("EdgesTest");
    }
}
