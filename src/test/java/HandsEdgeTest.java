/** Boundary cases of the hands: HANDS and DARK in section 1 of the terms, promises 10 to 16. */
public final class HandsEdgeTest extends Edges {
    /** Of the six shapes that busy() has. */
    private static final int[] NO_SHAPES = {-1, 6, 9, MIN, MAX};
    private static final int[] NO_PLACINGS = {MIN, -4000, -1, 0, 3999, 4008, 4080, 4100, 11078, 12000, MAX};

    private static void holdOne() {
        says(0, "HANDS: a row of 4 HOLDS, each of nothing (at first) or a SHAPE (none twice) with a PLACING.");
        LampShapes x = shapes(0, 1, 2, 4, 8, 16);
        for (int s = 0; s < 4; s++) {
            due("hold(" + s + ", 4000)", x.hold(s, 4000 + s), s);
        }
        due("count(3)", x.count(3), 4);
        says(10, "A SHAPE is held with a PLACING, in the first HOLD of nothing: which HOLD.");
        x.drop(3);
        x.drop(0);
        x.drop(2);
        due("the first of three", x.hold(4, 4000), 0);
        due("the first of two", x.hold(0, 11077), 2);
        due("the last", x.hold(2, 8000), 3);
        due("the greatest PLACING", x.held(2, 1), 11077);
        due("in a HOLD alone", x.of(0, 3), 2);
        LampShapes torn = shapes(0, 1);
        torn.tear(0, true);
        due("one that is TORN", torn.hold(0, 4000), 0);
        says(10, "BEYOND.");
        for (int s : NO_SHAPES) {
            refused(Edges::busy, "hold(" + s + ", 4000)", BEYOND, y -> y.hold(s, 4000));
        }
        for (int p : NO_PLACINGS) {
            refused(Edges::busy, "hold(1, " + p + ")", BEYOND, y -> y.hold(1, p));
        }
        refused(Edges::empty, "hold(0, 4000)", BEYOND, y -> y.hold(0, 4000));
        refused(Edges::full, "hold(9, 4000)", BEYOND, y -> y.hold(9, 4000));
        says(10, "STATE: it is held.");
        for (int s : new int[] {0, 2, 4}) {
            refused(Edges::busy, "hold(" + s + ", 4000)", STATE, y -> y.hold(s, 4000));
        }
        refused(Edges::busy, "hold(2, 5022), where it is", STATE, y -> y.hold(2, 5022));
        says(10, "FULL: no HOLD is free.");
        for (int s : new int[] {4, 8}) {
            refused(Edges::full, "hold(" + s + ", 4000)", FULL, y -> y.hold(s, 4000));
        }
        says(10, "BEYOND [before] STATE [before] FULL");
        refused(Edges::busy, "held, and no PLACING", BEYOND, y -> y.hold(0, 4008));
        refused(Edges::full, "held, and none free", STATE, y -> y.hold(3, 4000));
        refused(Edges::full, "none free, and no PLACING", BEYOND, y -> y.hold(8, 12000));
    }

    private static void moveOne() {
        says(11, "PLACING of a SHAPE that is held becomes another one: what it was.");
        LampShapes x = full();
        due("to the least", x.move(3, 4000), 4033);
        due("to the greatest", x.move(3, 11077), 4000);
        due("to where it is", x.move(3, 11077), 11077);
        due("in its HOLD", x.held(3, 1), 11077);
        due("the others stay", x.held(2, 1), 4022);
        says(11, "BEYOND.");
        for (int s : NO_SHAPES) {
            refused(Edges::busy, "move(" + s + ", 4000)", BEYOND, y -> y.move(s, 4000));
        }
        for (int p : NO_PLACINGS) {
            refused(Edges::busy, "move(0, " + p + ")", BEYOND, y -> y.move(0, p));
        }
        says(11, "STATE: it isn't held.");
        refused(Edges::busy, "move(1, 4000)", STATE, y -> y.move(1, 4000));
        refused(Edges::full, "move(8, 4000)", STATE, y -> y.move(8, 4000));
        says(11, "BEYOND [before] STATE");
        refused(Edges::busy, "not held, and no PLACING", BEYOND, y -> y.move(1, 4080));
    }

    private static void dropOne() {
        says(12, "A SHAPE is held no more: its HOLD.");
        LampShapes x = full();
        due("from the first HOLD", x.drop(0), 0);
        due("from the last HOLD", x.drop(3), 3);
        due("two are left", x.count(3), 2);
        due("held no more", x.of(3, 3), -1);
        says(12, "BEYOND.");
        for (int s : NO_SHAPES) {
            refused(Edges::busy, "drop(" + s + ")", BEYOND, y -> y.drop(s));
        }
        refused(Edges::empty, "drop(0)", BEYOND, y -> y.drop(0));
        refused(Edges::empty, "drop(-1), as HOLDS are of nothing", BEYOND, y -> y.drop(-1));
        refused(Edges::full, "drop(9)", BEYOND, y -> y.drop(9));
        says(12, "STATE: it isn't held.");
        refused(Edges::busy, "drop(1)", STATE, y -> y.drop(1));
        refused(Edges::full, "drop(8)", STATE, y -> y.drop(8));
    }

    private static void heldOne() {
        says(13, "what 0 the SHAPE (-1: nothing), 1 its PLACING (-1)");
        LampShapes x = full();
        due("the first HOLD's SHAPE", x.held(0, 0), 0);
        due("the last HOLD's PLACING", x.held(3, 1), 4033);
        x.drop(3);
        due("the SHAPE of nothing", x.held(3, 0), -1);
        due("the PLACING of nothing", x.held(3, 1), -1);
        says(13, "Of a HOLD (0 to 3) [..] BEYOND.");
        for (int h : new int[] {-1, 4, MIN, MAX}) {
            refused(Edges::full, "held(" + h + ", 0)", BEYOND, y -> y.held(h, 0));
        }
        for (int what : new int[] {-1, 2, MIN, MAX}) {
            refused(Edges::full, "held(0, " + what + ")", BEYOND, y -> y.held(0, what));
            refused(Edges::empty, "held(0, " + what + ")", BEYOND, y -> y.held(0, what));
        }
    }

    private static void darkCells() {
        says(0, "DARK: CELLS that are dark by some SHAPE held (those TORN throw nothing).");
        LampShapes x = shapes(0, 65535, 1, 0x8000);
        x.hold(0, 8000);
        due("all is dark", x.dark(), -1);
        due("count(4)", x.count(4), 64);
        x.tear(0, true);
        due("by one TORN alone", x.dark(), 0);
        x.hold(1, 4077);
        due("and one that is whole", x.dark(), CELL_63);
        x.tear(1, true);
        due("by two TORN", x.dark(), 0);
        x.tear(1, false);
        x.drop(1);
        x.hold(2, 4077);
        due("one off the sheet", x.dark(), 0);
        says(14, "DARK.");
        due("nothing is held", shapes(0, 65535).dark(), 0);
        LampShapes four = shapes(0, 1, 1, 1, 1);
        for (int s = 0; s < 4; s++) {
            four.hold(s, new int[] {4000, 4007, 4070, 4077}[s]);
        }
        due("by each of the four HOLDS", four.dark(), 1L | 1L << 7 | 1L << 56 | CELL_63);
        four.drop(0);
        four.drop(3);
        due("by two of them", four.dark(), 1L << 7 | 1L << 56);
    }

    /** Four alike, so many of them held at one place. */
    private static LampShapes alike(int held) {
        LampShapes x = shapes(0, 3, 3, 3, 3);
        for (int s = 0; s < held; s++) {
            x.hold(s, 4000);
        }
        return x;
    }

    private static void singleCells() {
        says(15, "Of DARK, the CELLS that are dark by one SHAPE held alone (not TORN).");
        due("nothing is held", alike(0).single(), 0);
        due("by one", alike(1).single(), 3);
        due("by two", alike(2).single(), 0);
        due("by three", alike(3).single(), 0);
        due("by four", alike(4).single(), 0);
        LampShapes x = alike(3);
        x.tear(0, true);
        due("by two and one TORN", x.single(), 0);
        x.tear(2, true);
        due("by one and two TORN", x.single(), 3);
        x.tear(1, true);
        due("by three TORN", x.single(), 0);
        LampShapes apart = alike(3);
        apart.move(1, 4001);
        apart.move(2, 4077);
        due("each in part", apart.single(), 1L | 4L | CELL_63);
    }

    private static void spareOne() {
        says(16, "Which SHAPE held (not TORN) could be dropped without DARK being another");
        LampShapes x = shapes(0, 0x000F, 0x0003);
        x.hold(0, 4000);
        x.hold(1, 4000);
        due("one within another", x.spare(), 1);
        x.move(1, 4003);
        due("but for a cell", x.spare(), NONE);
        LampShapes whole = shapes(0, 0x0003, 0x000C, 0x000F);
        whole.hold(0, 4000);
        whole.hold(1, 4000);
        whole.hold(2, 4000);
        whole.tear(1, true);
        due("within what is whole", whole.spare(), 0);
        whole.move(0, 4040);
        due("the one TORN is not told", whole.spare(), NONE);
        LampShapes between = shapes(0, 0x0006, 0x0003, 0x000C);
        between.hold(1, 4000);
        between.hold(2, 4000);
        between.hold(0, 4000);
        due("within two others together", between.spare(), 0);
        LampShapes none = shapes(0, 0, 0x8000);
        none.hold(1, 4077);
        due("one whose shadow is off the sheet", none.spare(), 1);
        says(16, "of several the least");
        due("of two alike", alike(2).spare(), 0);
        LampShapes back = shapes(0, 1, 1);
        back.hold(1, 4000);
        back.hold(0, 4000);
        due("the least SHAPE, not the first HOLD", back.spare(), 0);
        none.hold(0, 4000);
        due("the least of two that throw nothing", none.spare(), 0);
        says(16, "NONE.");
        refused(Edges::empty, "spare() without SHAPES", NONE, y -> y.spare());
        refused(() -> alike(0), "spare() with nothing held", NONE, y -> y.spare());
        refused(() -> alike(1), "spare() with one held", NONE, y -> y.spare());
        refused(HandsEdgeTest::tornAlone, "spare() with one TORN held alone", NONE, y -> y.spare());
        refused(HandsEdgeTest::tornTwin, "spare() with a TORN one alike", NONE, y -> y.spare());
    }

    private static LampShapes tornAlone() {
        LampShapes x = alike(1);
        x.tear(0, true);
        return x;
    }

    private static LampShapes tornTwin() {
        LampShapes x = alike(2);
        x.tear(1, true);
        return x;
    }

    public static void main(String[] args) {
        holdOne();
        moveOne();
        dropOne();
        heldOne();
        darkCells();
        singleCells();
        spareOne();
        end();
    }
}
