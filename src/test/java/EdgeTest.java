/** Each sentence of the document that names an edge, by its own words; none of its words may be left unnamed. */
final class EdgeTest {
    public static void main(String[] args) {
        Check check = new Check();
        Doc doc = new Doc(check);
        new TextEdges(doc, check).run();
        new TownEdges(doc, check).run();
        new PromiseEdges(doc, check).run();
        doc.isNamedWhole();
        check.end();
    }
}
