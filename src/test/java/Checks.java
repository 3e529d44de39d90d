/** What the tests of the document's sentences share: the sentence at hand, a field, and the answers that are due. */
abstract class Checks {
    static final int NONE = -1, BAD = -2, STATE = -3, FULL = -4;
    static final int NOTHING = -11, OUTSIDE = -12, OTHER = -13, BELOW = -14;
    static final int LOW = Integer.MIN_VALUE, HIGH = Integer.MAX_VALUE;
    static final long NO = -4611686018427387904L;

    private final Document document;
    private String sentence = "";
    private int row = 0;
    int wrong = 0;
    WreckField x = new WreckField();

    Checks(Document document) {
        this.document = document;
    }

    abstract void run();

    /** Begins the test of a sentence of the terms (section 0) or of a promise, with a new field. */
    final void sentence(int section, String stretch) {
        sentence = section + ": " + stretch;
        row = 0;
        anew();
        if (!document.quote(section, stretch)) fail("the document has no such sentence");
    }

    final void anew() {
        x = new WreckField();
    }

    final void fail(String what) {
        wrong++;
        System.out.println(sentence + "\n  row " + row + ": " + what);
    }

    final void due(long got, long want) {
        row++;
        if (got != want) fail("answered " + got + ", due is " + want);
    }

    final void bad(long... answers) {
        for (long answer : answers) due(answer, BAD);
    }

    final void no(long... answers) {
        for (long answer : answers) due(answer, NO);
    }

    /** By eights, so that long texts stay far below the 512 calls of an object. */
    final void feed(String text) {
        for (int at = 0; at < text.length(); at += 8) {
            int n = Math.min(8, text.length() - at);
            long bytes = 0;
            for (int i = n - 1; i >= 0; i--) bytes = bytes << 8 | text.charAt(at + i) & 255;
            x.feed(n, bytes);
        }
    }

    final int rule(String text) {
        feed(text);
        return x.rule();
    }

    /** FIXED ones, 1000 apart: six at most lie within 5000. */
    final void marks(int n) {
        for (int i = 0; i < n; i++) x.mark(1000 * i, 0, true);
    }

    final void floats(int sheet, int... halves) {
        x.sheet(sheet, 2, halves.length);
        for (int i = 0; i < halves.length; i++) x.cell(sheet, i, halves[i]);
    }

    final void divers(int n) {
        for (int i = 0; i < n; i++) x.diver();
    }

    /** A TIMBER with HOLES. */
    final int timber(int... places) {
        int timber = x.find(1, 0, 0, 1);
        for (int place : places) x.hole(timber, place);
        return timber;
    }
}
