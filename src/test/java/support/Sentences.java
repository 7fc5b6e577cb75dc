import java.io.IOException;

/** Checks that are for one sentence of the document each, and short words for desks and rules. */
class Sentences extends Checks {
    private static Document document;

    static void open() throws IOException {
        document = new Document();
    }

    /** The checks that follow are for this sentence of a promise. */
    static void promise(int number, String sentence) {
        at("promise " + number + ": '" + sentence + "'");
        if (!document.promises(number, sentence)) fail("the document does not say so");
    }

    /** The checks that follow are for this sentence of a section of the description; 0: of what stands around them. */
    static void section(int number, String sentence) {
        at("section " + number + ": '" + sentence + "'");
        if (!document.describes(number, sentence)) fail("the document does not say so");
    }

    /** A desk of relations with so many places. */
    static Derivationdesk desk(int... places) {
        Derivationdesk d = new Derivationdesk();
        for (int n : places) d.relation(n);
        return d;
    }

    /** Tells rows (a, b) of a relation of two places, each as 10 * a + b. */
    static void tellAll(Derivationdesk d, int relation, int... rows) {
        for (int row : rows) d.tell(relation, row / 10, row % 10);
    }

    static void tellSingle(Derivationdesk d, int relation, int... constants) {
        for (int a : constants) d.tell(relation, a, NONE);
    }

    static int[] head(int relation, int x, int y) { return new int[] {relation, x, y}; }

    static int[] with(int relation, int x, int y) { return new int[] {0, relation, x, y}; }

    static int[] without(int relation, int x, int y) { return new int[] {1, relation, x, y}; }

    static int[] compares(int kind, int x, int y) { return new int[] {2, kind, x, y}; }

    static void draft(Derivationdesk d, int[] head, int[]... parts) {
        d.draft(head[0], head[1], head[2]);
        for (int[] p : parts) {
            if (p[0] == 0) d.with(p[1], p[2], p[3]);
            else if (p[0] == 1) d.without(p[1], p[2], p[3]);
            else d.compare(p[1], p[2], p[3]);
        }
    }

    static int lay(Derivationdesk d, int sides, int[] head, int[]... parts) {
        draft(d, head, parts);
        return d.lay(sides);
    }

    /** What a rule makes on side 0 of the rows of relation 0 that are told, on a desk of its own. */
    static String makes(int[] rows, int[]... parts) {
        Derivationdesk d = desk(2, 2, 1);
        tellAll(d, 0, rows);
        lay(d, 1, head(1, 0, 1), parts);
        return d.rows(1, 0);
    }
}
