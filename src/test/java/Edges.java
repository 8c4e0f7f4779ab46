/** What the tests of the document's edges share: its words, the answers that are due, texts with their fault marked. */
abstract class Edges {
    static final int MIN = Integer.MIN_VALUE;
    static final int MAX = Integer.MAX_VALUE;
    /** No seconds, the first and the last that are ones left out. */
    static final int[] NO_SECONDS = {MIN, -1, 1000001, MAX};
    static final int LAST = 1000000;

    final Doc doc;
    private final Check check;

    Edges(Doc doc, Check check) {
        this.doc = doc;
        this.check = check;
    }

    abstract void run();

    void due(String call, long got, long want) {
        check.due(doc.words() + call, got, want);
    }

    void due(String call, boolean got, boolean want) {
        check.due(doc.words() + call, got, want);
    }

    /** A first | stands ahead of the wrong token. */
    void townFault(String marked, int kind) {
        String text = unmarked(marked);
        due("town() of " + marked, Check.town(new OverFirst(), text), kind + 16 * marked.indexOf('|'));
    }

    private static String unmarked(String marked) {
        return marked.replaceFirst("[|]", "");
    }

    void goodTown(String text) {
        due("town() of " + text, Check.town(new OverFirst(), text), 0);
    }

    void walkFault(String town, String marked, int kind) {
        OverFirst x = Check.made(town);
        due("walk() of " + marked, Check.walk(x, unmarked(marked)), kind + 16 * marked.indexOf('|'));
        due("lines after walk() of " + marked, x.count(4), 0);
    }

    void goodWalk(OverFirst x, String text, int lines) {
        due("walk() of " + text, Check.walk(x, text), 0);
        due("lines after walk() of " + text, x.count(4), lines);
    }

    static OverFirst made(String town) {
        return Check.made(town);
    }

    static String times(int many, String text) {
        return text.repeat(many);
    }

    void where(String after, OverFirst x, int over, int on, int second) {
        due("over " + after, x.count(5), over);
        due("on " + after, x.count(6), on);
        due("second " + after, x.count(7), second);
    }
}
