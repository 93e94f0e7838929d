import java.util.HashSet;
import java.util.Set;

/** Boundary cases of a new object and of the shapes: section 1 of the terms, promises 1 to 9. */
public final class ShapesEdgeTest extends Edges {
    private static final int[] NO_KINDS = {-1, 6, 7, 256, MIN, MAX};
    private static final int[] NO_POINTS = {-1, 65536, 65537, 1 << 31, MAX};
    /** Of the six shapes that busy() has. */
    private static final int[] NO_SHAPES = {-1, 6, 9, 32, MIN, MAX};

    private static int point(int row, int column) {
        return 1 << (4 * row + column);
    }

    private static void newObject() {
        LampShapes x = empty();
        says(1, "No SHAPES, SCENES");
        due("count(0)", x.count(0), 0);
        due("count(1)", x.count(1), 0);
        due("count(2)", x.count(2), 0);
        refused(Edges::empty, "of(0, 0)", BEYOND, y -> y.of(0, 0));
        refused(Edges::empty, "picture(0)", BEYOND, y -> y.picture(0));
        says(1, "HANDS hold nothing");
        due("count(3)", x.count(3), 0);
        for (int h = 0; h < 4; h++) {
            due("held(" + h + ", 0)", x.held(h, 0), -1);
            due("held(" + h + ", 1)", x.held(h, 1), -1);
        }
        says(1, "THE TAPE is empty");
        due("count(5)", x.count(5), 0);
        due("wipe()", x.wipe(), 0);
        says(1, "no image is kept");
        due("forget()", x.forget(), 0);
        refused(Edges::empty, "undo()", NONE, y -> y.undo());
        says(0, "ALLOWED: a set of the TURNS (bits 0 to 3; all at first) and NEARS (bits 4, 5; both at first)");
        due("count(6)", x.count(6), 63);
        says(0, "SHEETS 0 to 3 are rows [..], or MISSING (at first)");
        for (int s = 0; s < 4; s++) {
            int sheet = s;
            refused(Edges::empty, "film(" + s + ")", MISSING, y -> y.film(sheet));
        }
    }

    private static void newShape() {
        says(0, "SHAPES 0, 1, .. (at most 9)");
        LampShapes x = empty();
        for (int s = 0; s < 9; s++) {
            due("shape(0, 0)", x.shape(0, 0), s);
        }
        due("count(0)", x.count(0), 9);
        says(2, "BEYOND: kind");
        due("the least kind", empty().shape(0, 1), 0);
        due("the greatest kind", empty().shape(5, 1), 0);
        for (int kind : NO_KINDS) {
            refused(Edges::empty, "shape(" + kind + ", 1)", BEYOND, y -> y.shape(kind, 1));
            refused(Edges::busy, "shape(" + kind + ", 1)", BEYOND, y -> y.shape(kind, 1));
        }
        says(2, "BEYOND: [..] points (0 to 65535)");
        LampShapes z = shapes(0, 0, 65535);
        due("no points", z.of(0, 1), 0);
        due("all points", z.of(1, 1), 65535);
        for (int points : NO_POINTS) {
            refused(Edges::empty, "shape(0, " + points + ")", BEYOND, y -> y.shape(0, points));
            refused(Edges::busy, "shape(0, " + points + ")", BEYOND, y -> y.shape(0, points));
        }
        says(2, "FULL.");
        refused(Edges::full, "a 10th shape", FULL, y -> y.shape(0, 0));
        refused(Edges::full, "a 10th shape", FULL, y -> y.shape(5, 65535));
        says(2, "BEYOND [is asked before] FULL");
        refused(Edges::full, "a 10th of no kind", BEYOND, y -> y.shape(6, 0));
        refused(Edges::full, "a 10th without such points", BEYOND, y -> y.shape(0, 65536));
    }

    private static void ofOne() {
        says(3, "what 0 KIND, 1 POINTS, 2 1 if TORN, else 0");
        LampShapes x = busy();
        due("the first shape's kind", x.of(0, 0), 0);
        due("the last shape's kind", x.of(5, 0), 5);
        due("the last shape's points", x.of(5, 1), 0x1209);
        due("one that is whole", x.of(0, 2), 0);
        due("one that is TORN", x.of(5, 2), 1);
        LampShapes nine = full();
        nine.tear(8, true);
        due("the ninth that is TORN", nine.of(8, 2), 1);
        due("the eighth that is whole", nine.of(7, 2), 0);
        says(3, "3 in which HOLD it is (-1)");
        due("the first HOLD", nine.of(0, 3), 0);
        due("the last HOLD", nine.of(3, 3), 3);
        due("no HOLD", nine.of(4, 3), -1);
        due("HOLDS of nothing at all", shapes(0, 1).of(0, 3), -1);
        says(3, "BEYOND.");
        for (int s : NO_SHAPES) {
            refused(Edges::busy, "of(" + s + ", 0)", BEYOND, y -> y.of(s, 0));
        }
        for (int what : new int[] {-1, 4, MIN, MAX}) {
            refused(Edges::busy, "of(0, " + what + ")", BEYOND, y -> y.of(0, what));
        }
        refused(Edges::full, "of(9, 0)", BEYOND, y -> y.of(9, 0));
    }

    private static void cutOne() {
        says(4, "POINTS of a SHAPE become v: what they were.");
        LampShapes x = shapes(0, 5);
        due("cut to all points", x.cut(0, 65535), 5);
        due("cut to no points", x.cut(0, 0), 65535);
        due("no points", x.of(0, 1), 0);
        says(4, "BEYOND.");
        for (int s : NO_SHAPES) {
            refused(Edges::busy, "cut(" + s + ", 1)", BEYOND, y -> y.cut(s, 1));
        }
        for (int points : NO_POINTS) {
            refused(Edges::busy, "cut(0, " + points + ")", BEYOND, y -> y.cut(0, points));
        }
        refused(Edges::empty, "cut(0, 0)", BEYOND, y -> y.cut(0, 0));
        refused(Edges::full, "cut(9, 0)", BEYOND, y -> y.cut(9, 0));
    }

    private static void tearOne() {
        says(5, "1 if that is new, else 0");
        LampShapes x = full();
        for (int s : new int[] {0, 8}) {
            due("whole one made whole", x.tear(s, false), 0);
            due("whole one torn", x.tear(s, true), 1);
            due("TORN one torn", x.tear(s, true), 0);
            due("it is TORN alone", x.count(1), 1);
            due("TORN one made whole", x.tear(s, false), 1);
            due("none is TORN", x.count(1), 0);
        }
        says(5, "BEYOND.");
        for (int s : NO_SHAPES) {
            refused(Edges::busy, "tear(" + s + ", true)", BEYOND, y -> y.tear(s, true));
            refused(Edges::busy, "tear(" + s + ", false)", BEYOND, y -> y.tear(s, false));
        }
        refused(Edges::empty, "tear(0, true)", BEYOND, y -> y.tear(0, true));
        refused(Edges::full, "tear(9, true)", BEYOND, y -> y.tear(9, true));
    }

    private static void becomeOne() {
        says(6, "A SHAPE becomes one of another KIND: what it was.");
        LampShapes x = shapes(3, 0x0777);
        due("become the last kind", x.become(0, 5), 3);
        due("become the first kind", x.become(0, 0), 5);
        due("of(0, 0)", x.of(0, 0), 0);
        due("its points stay", x.of(0, 1), 0x0777);
        says(6, "BEYOND.");
        for (int s : NO_SHAPES) {
            refused(Edges::busy, "become(" + s + ", 1)", BEYOND, y -> y.become(s, 1));
        }
        for (int kind : NO_KINDS) {
            refused(Edges::busy, "become(0, " + kind + ")", BEYOND, y -> y.become(0, kind));
        }
        refused(Edges::empty, "become(0, 0)", BEYOND, y -> y.become(0, 0));
        refused(Edges::full, "become(9, 0)", BEYOND, y -> y.become(9, 0));
    }

    private static void asOne() {
        says(7, "KIND: it isn't of that kind, nor of one under it.");
        boolean[][] is = {
            {true, false, false, false, false, false},
            {true, true, false, false, false, false},
            {true, false, true, false, false, false},
            {true, true, false, true, false, false},
            {true, false, true, false, true, false},
            {true, true, false, false, false, true},
        };
        int[] points = {0x0017, 0x0113, 0x1233, 0x0777, 0x0019, 0x1209};
        for (int s = 0; s < 6; s++) {
            for (int kind = 0; kind < 6; kind++) {
                int shape = s;
                int asked = kind;
                String call = "as(" + s + ", " + kind + ")";
                if (is[s][kind]) {
                    due(call, busy().as(s, kind), points[s]);
                } else {
                    refused(Edges::busy, call, KIND, y -> y.as(shape, asked));
                }
            }
        }
        says(7, "BEYOND: no such SHAPE, kind.");
        for (int s : NO_SHAPES) {
            refused(Edges::busy, "as(" + s + ", 0)", BEYOND, y -> y.as(s, 0));
        }
        for (int kind : NO_KINDS) {
            refused(Edges::busy, "as(0, " + kind + ")", BEYOND, y -> y.as(0, kind));
        }
        refused(Edges::full, "as(9, 0)", BEYOND, y -> y.as(9, 0));
    }

    private static void thrownByTurn(String what, int kind, int points, int turn, int want) {
        due(what + " by turn " + turn, shapes(kind, points).thrown(0, turn), want);
    }

    private static void thrownAsTheyAre() {
        says(0, "SHAPE: as they are, whatever t.");
        for (int points : new int[] {0, 1, 0x8000, 0x1248, 0x0013, 65535}) {
            for (int t = 0; t < 4; t++) {
                thrownByTurn("points " + points, 0, points, t, points);
            }
        }
    }

    private static void thrownTurned() {
        says(0, "TURNED: t times: what is at ROW r, COLUMN c comes to ROW c, COLUMN 3 less r.");
        for (int r = 0; r < 4; r++) {
            for (int c = 0; c < 4; c++) {
                thrownByTurn("a point", 1, point(r, c), 0, point(r, c));
                thrownByTurn("a point", 1, point(r, c), 1, point(c, 3 - r));
                thrownByTurn("a point", 1, point(r, c), 2, point(3 - r, 3 - c));
                thrownByTurn("a point", 1, point(r, c), 3, point(3 - c, r));
            }
        }
        for (int t = 0; t < 4; t++) {
            thrownByTurn("no point", 1, 0, t, 0);
            thrownByTurn("all points", 1, 65535, t, 65535);
        }
    }

    private static void thrownMirrored() {
        says(0, "MIRRORED: if t is odd, COLUMN c comes to 3 less c.");
        for (int r = 0; r < 4; r++) {
            for (int c = 0; c < 4; c++) {
                for (int t = 0; t < 4; t++) {
                    thrownByTurn("a point", 2, point(r, c), t, point(r, t % 2 == 0 ? c : 3 - c));
                }
            }
        }
        thrownByTurn("no point", 2, 0, 1, 0);
        thrownByTurn("all points", 2, 65535, 3, 65535);
        thrownByTurn("several in a row", 2, 0x1237, 1, 0x84CE);
    }

    private static void thrownHollow() {
        says(0, "HOLLOW: [..] only those that haven't all four beside them among these");
        for (int r = 1; r <= 2; r++) {
            for (int c = 1; c <= 2; c++) {
                int arms = point(r - 1, c) | point(r + 1, c) | point(r, c - 1) | point(r, c + 1);
                thrownByTurn("one with all four", 3, arms | point(r, c), 0, arms);
                thrownByTurn("the four without it", 3, arms, 0, arms);
                for (int lacking : new int[] {point(r - 1, c), point(r + 1, c), point(r, c - 1), point(r, c + 1)}) {
                    int points = (arms | point(r, c)) & ~lacking;
                    thrownByTurn("one with three", 3, points, 0, points);
                }
            }
        }
        // The cross of 5 (row 1, column 1) comes to that of 6 by one turn, to 10 by two, to 9 by three.
        thrownByTurn("turned first", 3, 0x0272, 1, 0x04E4 & ~0x0040);
        thrownByTurn("turned first", 3, 0x0272, 2, 0x4E40 & ~0x0400);
        thrownByTurn("turned first", 3, 0x0272, 3, 0x2720 & ~0x0200);
        thrownByTurn("no point", 3, 0, 1, 0);
        says(0, "(above, below, to both sides; what would be off the 4 by 4 isn't)");
        for (int t = 0; t < 4; t++) {
            thrownByTurn("all points", 3, 65535, t, 0xF99F);
        }
        int rightEnd = point(0, 3) | point(1, 3) | point(2, 3) | point(1, 2) | point(2, 0);
        thrownByTurn("the next row's first isn't beside a row's last", 3, rightEnd, 0, rightEnd);
        int leftEnd = point(0, 0) | point(1, 0) | point(2, 0) | point(1, 1) | point(0, 3);
        thrownByTurn("the last row's end isn't beside a row's first", 3, leftEnd, 0, leftEnd);
        int top = point(0, 0) | point(0, 1) | point(0, 2) | point(1, 1) | point(3, 1);
        thrownByTurn("the last row isn't above the first", 3, top, 0, top);
        int bottom = point(3, 0) | point(3, 1) | point(3, 2) | point(2, 1) | point(0, 1);
        thrownByTurn("the first row isn't below the last", 3, bottom, 0, bottom);
    }

    private static void thrownDouble() {
        says(0, "DOUBLE: [..] and those that are below one of these (one ROW more, as far as there is one)");
        for (int c = 0; c < 4; c++) {
            for (int r = 0; r < 4; r++) {
                int even = point(r, c) | (r < 3 ? point(r + 1, c) : 0);
                int odd = point(r, 3 - c) | (r < 3 ? point(r + 1, 3 - c) : 0);
                for (int t = 0; t < 4; t++) {
                    thrownByTurn("a point of row " + r, 4, point(r, c), t, t % 2 == 0 ? even : odd);
                }
            }
        }
        thrownByTurn("no point", 4, 0, 1, 0);
        thrownByTurn("all points", 4, 65535, 1, 65535);
        thrownByTurn("one row more alone", 4, 0x000F, 0, 0x00FF);
    }

    private static int between(int row) {
        int filled = row;
        for (int c = 0; c < 4; c++) {
            int before = row & (1 << c) - 1;
            int behind = row >> (c + 1);
            if (before != 0 && behind != 0) {
                filled |= 1 << c;
            }
        }
        return filled;
    }

    private static void thrownFilled() {
        says(0, "FILLED: as TURNED, and each that has points of these on both sides in its ROW (not just beside).");
        for (int row = 0; row < 16; row++) {
            for (int r = 0; r < 4; r++) {
                thrownByTurn("row " + r + " of " + row, 5, row << 4 * r, 0, between(row) << 4 * r);
            }
        }
        thrownByTurn("not over a row's end", 5, 0x8118, 0, 0x8118);
        thrownByTurn("not along a column", 5, 0x1001, 0, 0x1001);
        thrownByTurn("along a column once turned", 5, 0x1001, 1, 0x000F);
        thrownByTurn("along a column once turned back", 5, 0x1001, 3, 0xF000);
        thrownByTurn("half turned", 5, 0x0009, 2, 0xF000);
        thrownByTurn("no point", 5, 0, 1, 0);
        thrownByTurn("all points", 5, 65535, 1, 65535);
    }

    private static void thrownRefused() {
        says(8, "BEYOND.");
        for (int s : NO_SHAPES) {
            refused(Edges::busy, "thrown(" + s + ", 0)", BEYOND, y -> y.thrown(s, 0));
        }
        for (int turn : new int[] {-1, 4, 5, -4, MIN, MAX}) {
            for (int s = 0; s < 6; s++) {
                int shape = s;
                refused(Edges::busy, "thrown(" + s + ", " + turn + ")", BEYOND, y -> y.thrown(shape, turn));
            }
        }
        refused(Edges::full, "thrown(9, 0)", BEYOND, y -> y.thrown(9, 0));
    }

    private static void shadowOnTheSheet() {
        says(0, "THE SHEET has CELLS 0 to 63: 8 times the ROW and the COLUMN (0 to 7 each).");
        for (int cell = 0; cell < 64; cell++) {
            int at = placing(1, 0, cell / 8, cell % 8);
            due("shadow(0, " + at + ")", shapes(0, 1).shadow(0, at), 1L << cell);
        }
        says(0, "POINTS: a set of 16 (bits 0 to 15: 4 times a ROW and a COLUMN, 0 to 3 each)");
        for (int r = 0; r < 4; r++) {
            for (int c = 0; c < 4; c++) {
                due("near 1", shapes(0, point(r, c)).shadow(0, 4000), rectangle(r, c, 1, 1));
                due("near 2", shapes(0, point(r, c)).shadow(0, 8000), rectangle(2 * r, 2 * c, 2, 2));
            }
        }
        says(0, "by NEAR 2 the four at [..]: as far as they are on THE SHEET");
        for (int near = 1; near <= 2; near++) {
            for (int row = 0; row < 8; row++) {
                for (int column = 0; column < 8; column++) {
                    int at = placing(near, 0, row, column);
                    due("all points at " + at, shapes(0, 65535).shadow(0, at), rectangle(row, column, 4 * near, 4 * near));
                    due("no point at " + at, shapes(0, 0).shadow(0, at), 0);
                    due("the last point at " + at, shapes(0, 0x8000).shadow(0, at),
                        rectangle(row + 3 * near, column + 3 * near, near, near));
                }
            }
        }
        due("half a point at the right", shapes(0, 1).shadow(0, 8007), rectangle(0, 7, 2, 1));
        due("half a point below", shapes(0, 1).shadow(0, 8070), rectangle(7, 0, 1, 2));
        due("a quarter of a point", shapes(0, 1).shadow(0, 8077), CELL_63);
        due("wholly off the sheet", shapes(0, 0x8000).shadow(0, 4077), 0);
    }

    private static void placings() {
        says(0, "Told as a number: 1000 times (4 times NEAR and TURN), and 10 times the ROW and the COLUMN.");
        Set<Integer> all = new HashSet<>();
        for (int near = 1; near <= 2; near++) {
            for (int turn = 0; turn < 4; turn++) {
                for (int row = 0; row < 8; row++) {
                    for (int column = 0; column < 8; column++) {
                        all.add(placing(near, turn, row, column));
                        int turned = turn == 0 ? point(0, 0) : turn == 1 ? point(0, 3) : turn == 2 ? point(3, 3) : point(3, 0);
                        int at = placing(near, turn, row, column);
                        due("shadow(0, " + at + ")", shapes(1, 1).shadow(0, at), shapes(0, turned).shadow(0, placing(near, 0, row, column)));
                    }
                }
            }
        }
        due("how many there are", all.size(), 512);
        says(9, "BEYOND: a number that is no PLACING, too.");
        LampShapes x = null;
        for (int i = 0, number = -13000; number <= 25000; i++, number++) {
            if (i % 500 == 0) {
                x = shapes(0, 65535);
            }
            must(number + " is a PLACING or not", x.shadow(0, number) != BEYOND == all.contains(number));
        }
        for (int number : new int[] {MIN, MIN + 4000, -4000, -1, 0, 3077, 3999, 4008, 4080, 4100, 11078, 11080, 12000, MAX}) {
            refused(Edges::busy, "shadow(0, " + number + ")", BEYOND, y -> y.shadow(0, number));
        }
    }

    private static void shadowRefused() {
        says(9, "The CELLS that a PLACING of a SHAPE makes dark (TORN or not).");
        LampShapes x = shapes(0, 1);
        x.tear(0, true);
        due("of one TORN", x.shadow(0, 4077), CELL_63);
        says(9, "BEYOND [.. no such SHAPE]");
        for (int s : NO_SHAPES) {
            refused(Edges::busy, "shadow(" + s + ", 4000)", BEYOND, y -> y.shadow(s, 4000));
        }
        refused(Edges::empty, "shadow(0, 4000)", BEYOND, y -> y.shadow(0, 4000));
        refused(Edges::full, "shadow(9, 4000)", BEYOND, y -> y.shadow(9, 4000));
        says(0, "FINDINGS are answers below -1000000000 [..] (in longs, too)");
        due("shadow's BEYOND", empty().shadow(0, 4000), -1000000001L);
        due("picture's BEYOND", empty().picture(0), -1000000001L);
        due("write's BEYOND", empty().write(4, 0, 0L), -1000000001L);
        due("write's MISSING", empty().write(0, 0, 0L), -1000000006L);
    }

    public static void main(String[] args) {
        newObject();
        newShape();
        ofOne();
        cutOne();
        tearOne();
        becomeOne();
        asOne();
        thrownAsTheyAre();
        thrownTurned();
        thrownMirrored();
        thrownHollow();
        thrownDouble();
        thrownFilled();
        thrownRefused();
        shadowOnTheSheet();
        placings();
        shadowRefused();
        end();
    }
}
