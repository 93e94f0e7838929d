/** Boundary cases of the scenes: section 2 of the terms, promises 17 to 31. */
public final class ScenesEdgeTest extends Edges {
    /** A call about a shape or a scene. */
    private interface About {
        long on(LampShapes x, int which);
    }

    private static LampShapes with(LampShapes x, int kind, int... points) {
        for (int p : points) {
            x.shape(kind, p);
        }
        return x;
    }

    private static LampShapes torn(LampShapes x, int... shapes) {
        for (int s : shapes) {
            x.tear(s, true);
        }
        return x;
    }

    private static LampShapes allowing(LampShapes x, int set) {
        x.allow(set);
        return x;
    }

    /** busy() has three scenes, full() seven. */
    private static void noSuchScene(String name, About call) {
        for (int s : new int[] {-1, 3, 7, MIN, MAX}) {
            refused(Edges::busy, name + " of scene " + s, BEYOND, y -> call.on(y, s));
        }
        refused(() -> shapes(0, 1), name + " of scene 0 without any", BEYOND, y -> call.on(y, 0));
        refused(Edges::full, name + " of scene 7", BEYOND, y -> call.on(y, 7));
    }

    /** busy() has six shapes, full() nine. */
    private static void noSuchShape(String name, About call) {
        for (int s : new int[] {-1, 6, 9, MIN, MAX}) {
            refused(Edges::busy, name + " of shape " + s, BEYOND, y -> call.on(y, s));
        }
        refused(() -> scenes(1), name + " of shape 0 without any", BEYOND, y -> call.on(y, 0));
        refused(Edges::full, name + " of shape 9", BEYOND, y -> call.on(y, 9));
    }

    private static void newScene() {
        says(0, "SCENES 0, 1, .. (at most 7): PICTURES wanted.");
        LampShapes x = empty();
        for (int s = 0; s < 7; s++) {
            due("scene(" + s + ")", x.scene(s), s);
        }
        due("count(2)", x.count(2), 7);
        says(0, "A PICTURE is a set of CELLS (a long; bit 63 as well).");
        long[] pictures = {0, 1, CELL_63, -1, Long.MAX_VALUE, BEYOND, FULL};
        LampShapes y = scenes(pictures);
        for (int s = 0; s < 7; s++) {
            due("picture(" + s + ")", y.picture(s), pictures[s]);
        }
        due("a PICTURE that looks like a finding counts for none", y.status(-1), 0);
        says(17, "FULL.");
        for (long picture : new long[] {0, -1, CELL_63}) {
            refused(Edges::full, "an 8th scene", FULL, z -> z.scene(picture));
        }
    }

    private static void drawPictureOff() {
        says(18, "The PICTURE of a SCENE becomes DARK: how many CELLS it is OFF what it was.");
        LampShapes x = with(scenes(-1, CELL_63), 0, 65535);
        due("all were dark, none is", x.draw(0), 64);
        due("nothing is dark", x.picture(0), 0);
        due("again", x.draw(0), 0);
        x.hold(0, 8000);
        due("none was dark, all are", x.draw(0), 64);
        due("the other stays", x.picture(1), CELL_63);
        due("cell 63 was dark, all are", x.draw(1), 63);
        says(18, "BEYOND.");
        noSuchScene("draw", (y, s) -> y.draw(s));
        says(19, "BEYOND.");
        noSuchScene("picture", (y, s) -> y.picture(s));
        says(0, "OFF of two PICTURES: how many CELLS are dark in one of both alone.");
        LampShapes z = with(scenes(0, CELL_63, -1, Long.MAX_VALUE), 0, 65535);
        int[] offNothing = {0, 1, 64, 63};
        for (int s = 0; s < 4; s++) {
            due("nothing dark, off(" + s + ")", z.off(s), offNothing[s]);
        }
        z.hold(0, 8000);
        for (int s = 0; s < 4; s++) {
            due("all dark, off(" + s + ")", z.off(s), 64 - offNothing[s]);
        }
        says(20, "BEYOND.");
        noSuchScene("off", (y, s) -> y.off(s));
    }

    private static void changesBetween() {
        says(0, "CHANGES [..]: OFF of both, by 4, and 1 more if anything is left; 0 if they are alike.");
        for (int n = 0; n <= 64; n++) {
            LampShapes x = scenes(0, lowest(n));
            int changes = n / 4 + (n % 4 == 0 ? 0 : 1);
            due("there, " + n + " cells", x.changes(0, 1), changes);
            due("back, " + n + " cells", x.changes(1, 0), changes);
            due("from a scene to itself", x.changes(1, 1), 0);
        }
        says(21, "BEYOND. [from]");
        noSuchScene("changes from", (y, s) -> y.changes(s, 0));
        says(21, "BEYOND. [to]");
        noSuchScene("changes to", (y, s) -> y.changes(0, s));
    }

    private static void allowSets() {
        says(22, "ALLOWED becomes a set (at least one of the TURNS and one of the NEARS): what it was.");
        for (int set = 0; set < 64; set++) {
            int asked = set;
            if (set % 16 == 0 || set / 16 == 0) {
                refused(Edges::busy, "allow(" + set + ")", BEYOND, y -> y.allow(asked));
            } else {
                LampShapes x = empty();
                due("allow(" + set + ")", x.allow(set), 63);
                due("what it was", x.allow(63), set);
            }
        }
        says(22, "BEYOND.");
        for (int set : new int[] {-1, -47, 64, 64 + 17, 127, 17 << 8, MIN, MIN + 17, MAX}) {
            refused(Edges::busy, "allow(" + set + ")", BEYOND, y -> y.allow(set));
        }
        says(0, "that may be used where PLACINGS are looked for");
        LampShapes x = allowing(shapes(0, 1), 17);
        due("a shadow by another PLACING", x.shadow(0, 11077), CELL_63);
        due("held by another PLACING", x.hold(0, 11077), 0);
        due("moved to another PLACING", x.move(0, 10000), 11077);
    }

    private static void nearestOne() {
        says(0, "of all its PLACINGS (ALLOWED) that with the least OFF, alone");
        for (int near = 1; near <= 2; near++) {
            for (int turn = 0; turn < 4; turn++) {
                LampShapes x = allowing(with(scenes(CELL_63, rectangle(0, 0, near, near)), 0, 1), 8 << near | 1 << turn);
                due("the last cell", x.nearest(0, 0, 0), placing(near, turn, 7, 7));
                due("its OFF", x.nearest(0, 0, 1), 0);
                due("the first cells", x.nearest(0, 1, 0), placing(near, turn, 0, 0));
                due("their OFF", x.nearest(0, 1, 1), 0);
            }
        }
        LampShapes x = with(scenes(-1), 0, 65535, 1);
        x.hold(0, 8000);
        due("whatever is held", x.nearest(1, 0, 1), 60);
        due("all is wanted and thrown", x.nearest(0, 0, 1), 0);
        says(0, "of several the least number");
        LampShapes none = with(scenes(-1, 0), 0, 0, 0x8000);
        due("what throws nothing, all wanted", none.nearest(0, 0, 0), 4000);
        due("its OFF", none.nearest(0, 0, 1), 64);
        due("what throws nothing, none wanted", none.nearest(0, 1, 0), 4000);
        due("its OFF", none.nearest(0, 1, 1), 0);
        due("the first by which it is off the sheet", none.nearest(1, 1, 0), 4005);
        LampShapes never = with(scenes(0), 0, 1);
        due("what is never off the sheet, none wanted", never.nearest(0, 0, 0), 4000);
        due("its OFF", never.nearest(0, 0, 1), 1);
        for (int near = 1; near <= 2; near++) {
            for (int turn = 0; turn < 4; turn++) {
                none.allow(8 << near | 1 << turn);
                due("the least ALLOWED", none.nearest(0, 0, 0), placing(near, turn, 0, 0));
            }
        }
        says(23, "NEAREST of a SHAPE (TORN or not) to a SCENE");
        due("one TORN", torn(with(scenes(CELL_63), 0, 1), 0).nearest(0, 0, 0), 4077);
        says(23, "BEYOND. [shape]");
        noSuchShape("nearest", (y, s) -> y.nearest(s, 0, 0));
        says(23, "BEYOND. [scene]");
        noSuchScene("nearest", (y, s) -> y.nearest(0, s, 0));
        says(23, "BEYOND. [what]");
        for (int what : new int[] {-1, 2, MIN, MAX}) {
            refused(Edges::busy, "nearest(0, 0, " + what + ")", BEYOND, y -> y.nearest(0, 0, what));
        }
    }

    private static void bestOne() {
        says(24, "The SHAPE (not TORN) that alone comes nearest to a SCENE; of several the least.");
        LampShapes x = with(scenes(-1, 3), 0, 0, 0, 3, 3);
        due("all OFF by 64 but two", x.best(0), 2);
        due("the least of two", x.best(1), 2);
        due("not the one TORN", torn(x, 2).best(1), 3);
        due("as far as can be", torn(x, 3).best(0), 0);
        LampShapes nine = with(scenes(3), 0, 1, 1, 1, 1, 1, 1, 1, 1, 3);
        due("the ninth", nine.best(0), 8);
        says(24, "BEYOND.");
        noSuchScene("best", (y, s) -> y.best(s));
        says(24, "NONE: there is none.");
        refused(() -> scenes(1), "best(0) without SHAPES", NONE, y -> y.best(0));
        refused(() -> torn(with(scenes(1), 0, 1, 1), 0, 1), "best(0), all TORN", NONE, y -> y.best(0));
        says(24, "BEYOND [before] NONE");
        refused(() -> scenes(1), "best(1) without SHAPES", BEYOND, y -> y.best(1));
    }

    private static void playOne() {
        says(25, "HANDS are made by and by: all are dropped");
        LampShapes x = with(scenes(0, -1), 0, 1, 1);
        x.hold(0, 4000);
        x.hold(1, 4077);
        due("nothing is wanted", x.play(0), 0);
        due("nothing is held", x.count(3), 0);
        says(25, "with which OFF of DARK and a SCENE is least and less than it was are held");
        // Two points one below the other: in the middle they win a cell and lose one.
        LampShapes same = with(scenes(1L << 27, CELL_63), 0, 0x0011);
        due("no less than it was", same.play(0), 1);
        due("nothing is held", same.count(3), 0);
        due("half off the sheet", same.play(1), 0);
        due("there", same.held(0, 1), 4077);
        LampShapes greater = allowing(with(scenes(0xFL << 60 | 1), 0, 1, 3, 15), 17);
        due("play(0)", greater.play(0), 0);
        due("the greatest gain first", greater.held(0, 0), 2);
        due("then the least SHAPE", greater.held(1, 0), 0);
        due("no more than makes it less", greater.count(3), 2);
        says(25, "the SHAPE (not TORN, not held)");
        LampShapes two = torn(with(scenes(0x8000000000000081L), 0, 1, 1, 1), 0);
        due("one cell is left over", two.play(0), 1);
        due("held(0, 0)", two.held(0, 0), 1);
        due("held(1, 0)", two.held(1, 0), 2);
        due("held(2, 0)", two.held(2, 0), -1);
        says(25, "and PLACING (ALLOWED)");
        due("near 2 alone", allowing(with(scenes(1), 0, 1), 33).play(0), 1);
        due("near 2, half off the sheet", allowing(with(scenes(CELL_63), 0, 1), 33).play(0), 0);
        says(25, "of several the least SHAPE, then number");
        LampShapes alike = with(scenes(CELL_63 | 1L << 27), 0, 1, 1, 1);
        alike.play(0);
        due("held(0, 0)", alike.held(0, 0), 0);
        due("held(0, 1)", alike.held(0, 1), 4033);
        due("held(1, 0)", alike.held(1, 0), 1);
        due("held(1, 1)", alike.held(1, 1), 4077);
        says(25, "till none makes it less, or none is free: OFF then.");
        LampShapes five = allowing(with(scenes(0x1249L), 0, 1, 1, 1, 1, 1), 17);
        due("five cells, four HOLDS", five.play(0), 1);
        due("all HOLDS", five.count(3), 4);
        due("the last is left over", five.held(3, 1), 4011);
        due("without SHAPES", scenes(-1).play(0), 64);
        due("all TORN", torn(with(scenes(-1), 0, 65535), 0).play(0), 64);
        due("all by one", with(scenes(-1), 0, 65535, 65535).play(0), 0);
        LampShapes nine = with(scenes(3), 0, 0, 0, 0, 0, 0, 0, 0, 0, 3);
        due("all by the ninth", nine.play(0), 0);
        due("the ninth alone", nine.held(0, 0) + 10 * nine.count(3), 18);
        LampShapes gone = with(scenes(-1), 0, 0);
        gone.image();
        gone.shape(0, 65535);
        gone.undo();
        due("a SHAPE that is there no more", gone.play(0), 64);
        says(25, "BEYOND.");
        noSuchScene("play", (y, s) -> y.play(s));
    }

    private static void fitsIn() {
        says(26, "In how many PLACINGS (ALLOWED) a SHAPE lies wholly in the dark of a SCENE");
        LampShapes x = with(scenes(-1, ~1L, 0), 0, 1, 65535, 0x8000, 0);
        due("all is dark", x.fits(0, 0), 512);
        due("all but cell 0", x.fits(0, 1), 512 - 8);
        due("nothing is dark", x.fits(0, 2), 0);
        due("all points, all but cell 0", x.fits(1, 1), 512 - 8);
        x.allow(17);
        due("by one TURN and NEAR", x.fits(0, 0), 64);
        x.allow(63);
        says(26, "and makes some of it dark");
        due("25 places by NEAR 1 and 4 by NEAR 2, by each TURN", x.fits(2, 0), 116);
        due("what throws nothing, all dark", x.fits(3, 0), 0);
        due("what throws nothing, nothing dark", x.fits(3, 2), 0);
        says(26, "BEYOND. [shape]");
        noSuchShape("fits", (y, s) -> y.fits(s, 0));
        says(26, "BEYOND. [scene]");
        noSuchScene("fits", (y, s) -> y.fits(0, s));
    }

    private static void takenFor() {
        says(0, "TAKEN FOR: a PICTURE may be taken for another one, if OFF is at most so many CELLS.");
        for (int n = 0; n <= 64; n++) {
            LampShapes x = scenes(0, lowest(n));
            due("as many as it is off", x.taken(0, n), 2);
            due("from the other", x.taken(1, n), 1);
            if (n > 0) {
                due("one less", x.taken(0, n - 1), 0);
            }
        }
        says(27, "SCENES (others than it)");
        due("the only one", scenes(5).taken(0, 64), 0);
        LampShapes seven = scenes(0, 0, 0, 0, 0, 0, 0);
        for (int s = 0; s < 7; s++) {
            due("all but " + s, seven.taken(s, 0), 127 - (1 << s));
        }
        says(27, "by n CELLS (0 to 64) [..] BEYOND.");
        for (int n : new int[] {-1, 65, MIN, MAX}) {
            refused(Edges::busy, "taken(0, " + n + ")", BEYOND, y -> y.taken(0, n));
        }
        says(27, "BEYOND. [scene]");
        noSuchScene("taken", (y, s) -> y.taken(s, 0));
    }

    private static void seenAs() {
        says(28, "The SCENE for which DARK is most likely taken: with the least OFF; of several the least.");
        due("as far as can be", scenes(-1).seen(), 0);
        due("the least of alike ones", scenes(-1, 3, 5, 6).seen(), 1);
        due("one alike", scenes(-1, 3, 0, 1).seen(), 2);
        due("the seventh", scenes(-1, 3, 5, 7, 15, 3, 1).seen(), 6);
        says(28, "NONE: there is none.");
        refused(Edges::empty, "seen()", NONE, y -> y.seen());
        refused(() -> shapes(0, 1), "seen() with a SHAPE alone", NONE, y -> y.seen());
    }

    private static void orders(String what, LampShapes x, int cost, int... order) {
        due(what + ": the COST", x.order(-1), cost);
        for (int i = 0; i < order.length; i++) {
            due(what + ": order(" + i + ")", x.order(i), order[i]);
        }
    }

    private static void orderOfAll() {
        says(29, "The ORDER of all SCENES (6 at most) with the least COST");
        orders("none", empty(), 0);
        LampShapes gone = empty();
        gone.image();
        gone.scene(0);
        gone.scene(-1);
        due("of two", gone.order(-1), 16);
        gone.undo();
        orders("none any more", gone, 0);
        orders("one", scenes(-1), 0, 0);
        orders("six", scenes(0xF, 0xFFFFF, 0xFFF, 0, 0xFF, 0xFFFF), 5, 1, 5, 2, 4, 0, 3);
        orders("as far as can be", scenes(0, -1), 16, 0, 1);
        orders("alike ones side by side", scenes(0, -1, 0, -1), 16, 0, 2, 1, 3);
        says(29, "of several the first by numbers");
        orders("all alike", scenes(7, 7, 7, 7, 7, 7), 0, 0, 1, 2, 3, 4, 5);
        orders("there or back", scenes(0xF, 0, 0xFF), 2, 1, 0, 2);
        // OFF is 8, 5 and 5, but each is two CHANGES.
        orders("by CHANGES and not by CELLS", scenes(0, 0xFF, 0x10F), 4, 0, 1, 2);
        says(29, "BEYOND: what below -1.");
        for (int what : new int[] {-2, -3, MIN}) {
            refused(Edges::empty, "order(" + what + ") of none", BEYOND, y -> y.order(what));
            refused(Edges::busy, "order(" + what + ")", BEYOND, y -> y.order(what));
        }
        says(29, "SIZE.");
        for (int what : new int[] {-1, 0, 5, 6}) {
            refused(Edges::full, "order(" + what + ") of seven", SIZE, y -> y.order(what));
        }
        says(29, "NONE: it has no i-th.");
        refused(Edges::empty, "order(0) of none", NONE, y -> y.order(0));
        refused(() -> scenes(5), "order(1) of one", NONE, y -> y.order(1));
        refused(() -> scenes(1, 2, 3, 4, 5, 6), "order(6) of six", NONE, y -> y.order(6));
        refused(() -> scenes(1, 2, 3, 4, 5, 6), "order(MAX) of six", NONE, y -> y.order(MAX));
        says(29, "BEYOND [before] SIZE [before] NONE");
        refused(Edges::full, "order(-2) of seven", BEYOND, y -> y.order(-2));
        refused(Edges::full, "order(7) of seven", SIZE, y -> y.order(7));
        refused(Edges::full, "order(MAX) of seven", SIZE, y -> y.order(MAX));
    }

    private static void closestTwo() {
        says(30, "The least number of CELLS by which some two SCENES may be TAKEN FOR one another.");
        due("two alike", scenes(5, 5).closest(), 0);
        due("cell 63 alone", scenes(0, CELL_63).closest(), 1);
        due("as far as can be", scenes(0, -1).closest(), 64);
        due("the last two", scenes(0, -1, 0xFFFF, 0xFFFFFF, 0xFFFFFFFFL, 0xFFFFFFFFFFL, 0xFFFFFFFFF8L).closest(), 3);
        due("the first and the last", scenes(0, -1, 0xFFFF, 1).closest(), 1);
        says(30, "NONE: there aren't two.");
        refused(Edges::empty, "closest() of none", NONE, y -> y.closest());
        refused(() -> scenes(1), "closest() of one", NONE, y -> y.closest());
    }

    private static void harmlessOnes() {
        says(31, "were one TORN, the best one to some SCENE would come no less near than now, to each SCENE");
        due("two alike", with(scenes(1), 0, 1, 1).harmless(), 3);
        due("one is needed", with(scenes(3), 0, 3, 1).harmless(), 2);
        due("the only one", with(scenes(0), 0, 0).harmless(), 0);
        due("the only one that is whole", torn(with(scenes(1), 0, 1, 1), 0).harmless(), 0);
        due("one is needed for one scene", with(scenes(3, 1), 0, 3, 2).harmless(), 2);
        due("both are needed", with(scenes(0x0F0F, 0x010101), 0, 0x00FF, 0x0111).harmless(), 0);
        due("needed for the last scene alone", with(scenes(0, 0, 0, 0, 0, 0, 3), 0, 1, 3).harmless(), 1);
        due("nine alike", with(scenes(1), 0, 1, 1, 1, 1, 1, 1, 1, 1, 1).harmless(), 511);
        due("the ninth is needed", with(scenes(15), 0, 1, 1, 1, 1, 1, 1, 1, 1, 15).harmless(), 255);
        due("those TORN are left out", torn(with(scenes(1), 0, 1, 1, 1), 1).harmless(), 5);
        says(31, "NONE: no SCENES, or all are TORN.");
        refused(Edges::empty, "harmless() of nothing", NONE, y -> y.harmless());
        refused(() -> shapes(0, 1, 1), "harmless() without SCENES", NONE, y -> y.harmless());
        refused(() -> scenes(1), "harmless() without SHAPES", NONE, y -> y.harmless());
        refused(() -> torn(with(scenes(1), 0, 1, 1), 0, 1), "harmless(), all TORN", NONE, y -> y.harmless());
    }

    public static void main(String[] args) {
        newScene();
        drawPictureOff();
        changesBetween();
        allowSets();
        nearestOne();
        bestOne();
        playOne();
        fitsIn();
        takenFor();
        seenAs();
        orderOfAll();
        closestTwo();
        harmlessOnes();
        end();
    }
}
