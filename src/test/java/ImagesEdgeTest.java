/** Boundary cases of the images and the counts: promises 41 to 45, and what a finding changes. */
public final class ImagesEdgeTest extends Edges {
    private static void keep() {
        says(41, "All that section 1 tells (THE TAPE not) is kept: 1.");
        due("of nothing", empty().image(), 1);
        due("of as many as there can be", full().image(), 1);
        LampShapes x = empty();
        x.image();
        for (int s = 0; s < 9; s++) {
            x.shape(s % 6, 65535);
            x.tear(s, s % 2 == 0);
        }
        for (int s = 0; s < 7; s++) {
            x.scene(-1);
        }
        for (int s = 0; s < 4; s++) {
            x.hold(s, 11077);
        }
        x.allow(17);
        due("undo to nothing", x.undo(), 0);
        int[] counts = {0, 0, 0, 0, 0, 0, 63};
        for (int what = 0; what < 7; what++) {
            due("count(" + what + ")", x.count(what), counts[what]);
        }
        due("a new SHAPE is the first", x.shape(0, 1), 0);
        due("and whole", x.of(0, 2), 0);
        due("and isn't held", x.of(0, 3), -1);
        due("a new SCENE is the first", x.scene(0), 0);
    }

    private static void undoAll() {
        says(42, "It becomes what was kept latest (which stays): how many SHAPES.");
        LampShapes x = shapes(0, 1);
        x.image();
        x.shape(0, 2);
        x.image();
        x.shape(0, 3);
        due("the latest", x.undo(), 2);
        x.cut(0, 7);
        x.tear(1, true);
        due("which stays", x.undo(), 2);
        due("as it was", x.of(0, 1), 1);
        due("as it was", x.of(1, 2), 0);
        LampShapes nine = full();
        nine.cut(8, 0);
        nine.drop(3);
        nine.draw(6);
        due("as many as there can be", nine.undo(), 9);
        due("the ninth SHAPE", nine.of(8, 1), 256);
        due("the fourth HOLD", nine.held(3, 1), 4033);
        due("the seventh SCENE", nine.picture(6), 1L << 54);
        says(41, "(THE TAPE not) [nor the sheets of section 3]");
        LampShapes y = empty();
        feedAll(y, "drop");
        y.sheet(0, 8, 2);
        y.image();
        feedAll(y, ";drop");
        y.write(0, 1, 5);
        y.sheet(1, 16, 1);
        y.undo();
        due("THE TAPE stays as it is", y.count(5), 9);
        due("and is told", y.text(), 2);
        due("a sheet stays as it is", y.write(0, 1, 0), 5);
        due("a new sheet is there", y.write(1, 0, 0), 0);
        says(42, "NONE: nothing is kept.");
        refused(Edges::empty, "undo()", NONE, z -> z.undo());
        refused(ImagesEdgeTest::forgotten, "undo() behind forget()", NONE, z -> z.undo());
    }

    private static LampShapes forgotten() {
        LampShapes x = busy();
        x.forget();
        return x;
    }

    private static void forgetAll() {
        says(43, "Nothing is kept: 1 if something was, else 0.");
        LampShapes x = empty();
        due("nothing was", x.forget(), 0);
        x.image();
        due("something was", x.forget(), 1);
        due("nothing was", x.forget(), 0);
        x.image();
        x.image();
        due("the latest alone was", x.forget(), 1);
        due("no earlier one is left", x.forget(), 0);
        x.image();
        x.undo();
        due("it stayed behind undo()", x.forget(), 1);
        due("what there is stays", forgotten().count(0), 6);
    }

    private static void counts() {
        says(44, "0 SHAPES, 1 TORN ones, 2 SCENES, 3 HOLDS of a SHAPE, 4 CELLS of DARK, 5 bytes of THE TAPE, 6 ALLOWED.");
        int[] none = {0, 0, 0, 0, 0, 0, 63};
        int[] most = {9, 9, 7, 4, 0, 120, 63};
        LampShapes x = full();
        for (int s = 0; s < 9; s++) {
            x.tear(s, true);
        }
        for (int what = 0; what < 7; what++) {
            due("of nothing, count(" + what + ")", empty().count(what), none[what]);
            due("of as many as can be, count(" + what + ")", x.count(what), most[what]);
        }
        LampShapes all = shapes(0, 65535);
        all.hold(0, 8000);
        due("all CELLS", all.count(4), 64);
        all.cut(0, 1);
        all.move(0, 4077);
        due("CELL 63 alone", all.count(4), 1);
        says(44, "BEYOND: another what.");
        for (int what : new int[] {-1, 7, MIN, MAX}) {
            refused(Edges::busy, "count(" + what + ")", BEYOND, y -> y.count(what));
        }
    }

    /** Each finding so many times: BEYOND once, FULL twice, and so on to SIZE seven times. */
    private static LampShapes found() {
        LampShapes x = shapes(0, 1);
        for (int i = 0; i < 7; i++) {
            x.scene(i);
        }
        x.of(1, 0);
        for (int i = 0; i < 2; i++) {
            x.scene(0);
        }
        for (int i = 0; i < 3; i++) {
            x.as(0, 1);
        }
        for (int i = 0; i < 4; i++) {
            x.undo();
        }
        for (int i = 0; i < 5; i++) {
            x.drop(0);
        }
        for (int i = 0; i < 6; i++) {
            x.write(0, 0, 0);
        }
        for (int i = 0; i < 7; i++) {
            x.order(-1);
        }
        return x;
    }

    private static void statuses() {
        says(45, "which -1: all, 0 to 6: BEYOND to SIZE");
        for (int which = -1; which < 7; which++) {
            due("of nothing, status(" + which + ")", empty().status(which), 0);
            due("of each, status(" + which + ")", found().status(which), which == -1 ? 28 : which + 1);
        }
        says(45, "How many acts answered a finding ever (undo() takes none back)");
        LampShapes x = empty();
        x.image();
        x.of(0, 0);
        x.count(9);
        x.undo();
        due("behind undo()", x.status(0), 2);
        x.forget();
        x.undo();
        due("undo()'s own", x.status(3), 1);
        due("all", x.status(-1), 3);
        says(45, "[acts that answered no finding]");
        LampShapes y = scenes(BEYOND, SIZE);
        y.picture(0);
        y.picture(1);
        y.sheet(0, 64, 1);
        y.write(0, 0, MISSING);
        y.write(0, 0, 0);
        tell(y, "fault");
        y.held(0, 0);
        due("numbers that look like findings, a fault, and -1", y.status(-1), 0);
        says(45, "BEYOND (counted from then on): another one.");
        for (int which : new int[] {-2, 7, MIN, MAX}) {
            refused(Edges::busy, "status(" + which + ")", BEYOND, z -> z.status(which));
        }
        LampShapes z = empty();
        due("status(7)", z.status(7), BEYOND);
        due("status(0) then", z.status(0), 1);
        due("status(-2)", z.status(-2), BEYOND);
        due("status(-1) then", z.status(-1), 2);
    }

    private static void findings() {
        says(0, "-1000000001 BEYOND, -1000000002 FULL, -1000000003 KIND, -1000000004 NONE, -1000000005 STATE, "
            + "-1000000006 MISSING, -1000000007 SIZE");
        LampShapes x = full();
        due("BEYOND", x.of(9, 0), -1000000001L);
        due("FULL", x.scene(0), -1000000002L);
        due("KIND", x.as(0, 1), -1000000003L);
        due("NONE", empty().seen(), -1000000004L);
        due("STATE", x.drop(8), -1000000005L);
        due("MISSING", empty().read(0), -1000000006L);
        due("SIZE", x.order(0), -1000000007L);
    }

    private static void manyCalls() {
        says(0, "An object is used for at most 512 calls after it has been made");
        LampShapes x = empty();
        for (int i = 1; i < 512; i++) {
            due("the " + i + "th call", x.of(0, 0), BEYOND);
        }
        due("the 512th call", x.status(0), 511);
    }

    private static void objectsApart() {
        says(1, "[a new object shares nothing with another]");
        LampShapes x = full();
        LampShapes y = empty();
        x.status(9);
        due("its SHAPES", y.count(0), 0);
        due("its bytes", y.count(5), 0);
        due("its findings", y.status(-1), 0);
        due("its image", y.forget(), 0);
    }

    public static void main(String[] args) {
        keep();
        undoAll();
        forgetAll();
        counts();
        statuses();
        findings();
        manyCalls();
        objectsApart();
        end();
    }
}
