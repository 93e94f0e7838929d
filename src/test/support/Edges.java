/** What the tests of boundary cases share: each check stands under the sentence of the document that it is for. */
abstract class Edges {
    static final int BEYOND = -1000000001;
    static final int FULL = -1000000002;
    static final int KIND = -1000000003;
    static final int NONE = -1000000004;
    static final int STATE = -1000000005;
    static final int MISSING = -1000000006;
    static final int SIZE = -1000000007;
    static final int MIN = Integer.MIN_VALUE;
    static final int MAX = Integer.MAX_VALUE;
    static final long CELL_63 = Long.MIN_VALUE;

    private static int promise = 0;
    private static String sentence = null;
    private static int sentences = 0;
    private static int checks = 0;
    private static int checksBefore = 0;
    private static int wrong = 0;

    /** Makes an object in a state that is always the same. */
    interface Maker {
        LampShapes make();
    }

    interface Call {
        long on(LampShapes x);
    }

    /** All checks from here on are for this sentence; promise 0 stands for the terms. */
    static void says(int itsPromise, String itsSentence) {
        endSentence();
        promise = itsPromise;
        sentence = itsSentence;
        sentences++;
    }

    private static void endSentence() {
        if (sentence != null && checks == checksBefore) {
            fault("has no check");
        }
        checksBefore = checks;
    }

    private static void fault(String what) {
        wrong++;
        System.out.println((promise == 0 ? "terms" : "promise " + promise) + ", \"" + sentence + "\": " + what);
    }

    static void due(String call, long got, long want) {
        checks++;
        if (got != want) {
            fault(call + " answered " + got + ", due is " + want);
        }
    }

    static void must(String what, boolean is) {
        checks++;
        if (!is) {
            fault(what);
        }
    }

    /** A call answers a finding, counts it once, and changes nothing else: a twin without the call tells the same. */
    static void refused(Maker maker, String name, long finding, Call call) {
        LampShapes x = maker.make();
        LampShapes twin = maker.make();
        due(name, call.on(x), finding);
        int place = (int) (BEYOND - finding);
        for (int which = -1; which < 7; which++) {
            int more = which == -1 || which == place ? 1 : 0;
            due("status(" + which + ") behind the refused " + name, x.status(which), twin.status(which) + more);
        }
        same(name, x, twin);
    }

    /** Everything that the face tells of both is alike, but for status(). */
    static void same(String behind, LampShapes x, LampShapes twin) {
        String got = everything(x);
        String want = everything(twin);
        must("behind " + behind + " there is\n  " + got + "\nand not\n  " + want, got.equals(want));
    }

    /** Uses the object up: sheets are overwritten, THE TAPE is told, what is kept comes back. */
    private static String everything(LampShapes x) {
        StringBuilder b = new StringBuilder();
        stage(x, b);
        sheets(x, b);
        b.append(" text ").append(x.text());
        stage(x, b);
        b.append(" undo ").append(x.undo());
        stage(x, b);
        return b.toString();
    }

    private static void stage(LampShapes x, StringBuilder b) {
        b.append(" counts");
        for (int what = 0; what < 7; what++) {
            b.append(' ').append(x.count(what));
        }
        for (int s = 0; s < x.count(0); s++) {
            b.append(" shape");
            for (int what = 0; what < 4; what++) {
                b.append(' ').append(x.of(s, what));
            }
        }
        b.append(" hands");
        for (int h = 0; h < 4; h++) {
            b.append(' ').append(x.held(h, 0)).append(' ').append(x.held(h, 1));
        }
        b.append(" dark ").append(x.dark()).append(" scenes");
        for (int s = 0; s < x.count(2); s++) {
            b.append(' ').append(x.picture(s));
        }
    }

    private static void sheets(LampShapes x, StringBuilder b) {
        for (int s = 0; s < 4; s++) {
            b.append(" sheet ").append(x.write(s, 0, -1)).append(' ').append(x.write(s, 0, 0));
            // A sheet tells how many it has by film() up to eight alone, so its end is found by writing.
            for (int i = 1; i <= 40; i++) {
                long number = x.write(s, i, 0);
                b.append(' ').append(number);
                if (number == BEYOND || number == MISSING) {
                    break;
                }
            }
        }
    }

    static LampShapes empty() {
        return new LampShapes();
    }

    /** Six SHAPES (0, 2 and 4 held, 4 and 5 TORN), three SCENES, sheets but for sheet 3, and another state kept. */
    static LampShapes busy() {
        LampShapes x = new LampShapes();
        x.shape(0, 0x0017);
        x.shape(1, 0x0113);
        x.shape(2, 0x1233);
        x.shape(3, 0x0777);
        x.scene(0x070707);
        x.scene(-1);
        x.hold(3, 4055);
        x.image();
        x.drop(3);
        x.shape(4, 0x0019);
        x.shape(5, 0x1209);
        x.scene(CELL_63);
        x.hold(2, 5022);
        x.hold(0, 4077);
        x.hold(4, 8001);
        x.tear(4, true);
        x.tear(5, true);
        x.allow(0x37);
        x.sheet(0, 8, 3);
        x.sheet(1, 16, 9);
        x.sheet(2, 64, 3);
        for (int i = 0; i < 3; i++) {
            x.write(0, i, 101 + i);
            x.write(1, i, 1001 + i);
            x.write(2, i, i - 7L);
        }
        feedAll(x, "drop; torn 1");
        return x;
    }

    /** As many of everything as there can be. */
    static LampShapes full() {
        LampShapes x = new LampShapes();
        for (int s = 0; s < 9; s++) {
            x.shape(s % 6, 1 << s);
        }
        for (int s = 0; s < 7; s++) {
            x.scene(1L << 9 * s);
        }
        for (int s = 0; s < 4; s++) {
            x.hold(s, 4000 + 11 * s);
        }
        x.image();
        for (int s = 0; s < 4; s++) {
            x.sheet(s, s == 1 ? 16 : 8, 40);
            x.write(s, 39, 77 + s);
        }
        feedAll(x, "drop;".repeat(23) + " drop");
        return x;
    }

    static LampShapes shapes(int kind, int... points) {
        LampShapes x = new LampShapes();
        for (int p : points) {
            x.shape(kind, p);
        }
        return x;
    }

    static LampShapes scenes(long... pictures) {
        LampShapes x = new LampShapes();
        for (long p : pictures) {
            x.scene(p);
        }
        return x;
    }

    static void feedAll(LampShapes x, String text) {
        int i = 0;
        while (i < text.length()) {
            int n = Math.min(4, text.length() - i);
            int bytes = 0;
            for (int k = 0; k < n; k++) {
                bytes = bytes << 8 | text.charAt(i + k) & 255;
            }
            x.feed(bytes, n);
            i += n;
        }
    }

    static int tell(LampShapes x, String text) {
        feedAll(x, text);
        return x.text();
    }

    /** The lowest cells or bits, so many of them; 64 are all. */
    static long lowest(int n) {
        return n >= 64 ? -1L : (1L << n) - 1;
    }

    /** The cells of a rectangle, as far as it is on the sheet. */
    static long rectangle(int row, int column, int rows, int columns) {
        long cells = 0;
        for (int r = row; r < Math.min(8, row + rows); r++) {
            for (int c = column; c < Math.min(8, column + columns); c++) {
                cells |= 1L << (8 * r + c);
            }
        }
        return cells;
    }

    static int placing(int near, int turn, int row, int column) {
        return 1000 * (4 * near + turn) + 10 * row + column;
    }

    static void end() {
        endSentence();
        System.out.println(sentences + " sentences, " + checks + " checks: "
            + (wrong == 0 ? "all answers are as due" : wrong + " are not as due"));
        if (wrong != 0) {
            System.exit(1);
        }
    }
}
