/** For each promise of the document: ordinary calls, its edges and wrong inputs, with the answers that are due. */
public final class PromisesTest {
    private static final int BEYOND = -1000000001;
    private static final int FULL = -1000000002;
    private static final int KIND = -1000000003;
    private static final int NONE = -1000000004;
    private static final int STATE = -1000000005;
    private static final int MISSING = -1000000006;
    private static final int SIZE = -1000000007;
    private static final int MIN = Integer.MIN_VALUE;
    private static final int MAX = Integer.MAX_VALUE;
    private static int wrong = 0;

    private static void due(int promise, String call, long got, long want) {
        if (got != want) {
            wrong++;
            System.out.println("promise " + promise + ": " + call + " answered " + got + ", due is " + want);
        }
    }

    private static void feedAll(LampShapes x, String text) {
        for (int i = 0; i < text.length(); i++) {
            x.feed(text.charAt(i), 1);
        }
    }

    private static int tell(LampShapes x, String text) {
        feedAll(x, text);
        return x.text();
    }

    /** What a text answers on a new object. */
    private static void told(String text, long want) {
        due(34, "text of \"" + text + "\"", tell(new LampShapes(), text), want);
    }

    /** An object with one SHAPE of each KIND, all with the same POINTS. */
    private static LampShapes kinds(int points) {
        LampShapes x = new LampShapes();
        for (int kind = 0; kind < 6; kind++) {
            x.shape(kind, points);
        }
        return x;
    }

    private static LampShapes scenes(long... pictures) {
        LampShapes x = new LampShapes();
        for (long p : pictures) {
            x.scene(p);
        }
        return x;
    }

    private static void newObject() {
        LampShapes x = new LampShapes();
        for (int what = 0; what < 6; what++) {
            due(1, "count(" + what + ")", x.count(what), 0);
        }
        due(1, "count(6)", x.count(6), 63);
        for (int h = 0; h < 4; h++) {
            due(1, "held(h, 0)", x.held(h, 0), -1);
            due(1, "held(h, 1)", x.held(h, 1), -1);
            due(1, "film(s)", x.film(h), MISSING);
        }
        due(1, "dark()", x.dark(), 0);
        due(1, "forget()", x.forget(), 0);
        due(1, "status(-1)", x.status(-1), 4);
        due(1, "undo()", x.undo(), NONE);
    }

    private static void shape() {
        LampShapes x = new LampShapes();
        due(2, "shape(-1, 0)", x.shape(-1, 0), BEYOND);
        due(2, "shape(6, 0)", x.shape(6, 0), BEYOND);
        due(2, "shape(0, -1)", x.shape(0, -1), BEYOND);
        due(2, "shape(0, 65536)", x.shape(0, 65536), BEYOND);
        due(2, "count(0)", x.count(0), 0);
        for (int s = 0; s < 9; s++) {
            due(2, "shape", x.shape(s % 6, s == 8 ? 65535 : s), s);
        }
        due(2, "a 10th", x.shape(0, 0), FULL);
        due(2, "a wrong 10th", x.shape(0, 65536), BEYOND);
        due(2, "count(0)", x.count(0), 9);
        due(2, "of(8, 1)", x.of(8, 1), 65535);
    }

    private static void of() {
        LampShapes x = kinds(77);
        x.tear(4, true);
        x.hold(2, 4000);
        x.hold(4, 4000);
        due(3, "of(4, 0)", x.of(4, 0), 4);
        due(3, "of(4, 1)", x.of(4, 1), 77);
        due(3, "of(4, 2)", x.of(4, 2), 1);
        due(3, "of(3, 2)", x.of(3, 2), 0);
        due(3, "of(4, 3)", x.of(4, 3), 1);
        due(3, "of(3, 3)", x.of(3, 3), -1);
        due(3, "of(6, 0)", x.of(6, 0), BEYOND);
        due(3, "of(-1, 0)", x.of(-1, 0), BEYOND);
        due(3, "of(0, 4)", x.of(0, 4), BEYOND);
        due(3, "of(0, -1)", x.of(0, -1), BEYOND);
        due(3, "of(MIN, MAX)", x.of(MIN, MAX), BEYOND);
    }

    private static void cutTearBecome() {
        LampShapes x = kinds(5);
        due(4, "cut(1, 65535)", x.cut(1, 65535), 5);
        due(4, "cut(1, 0)", x.cut(1, 0), 65535);
        due(4, "cut(1, 65536)", x.cut(1, 65536), BEYOND);
        due(4, "cut(1, -1)", x.cut(1, -1), BEYOND);
        due(4, "cut(6, 0)", x.cut(6, 0), BEYOND);
        due(4, "of(1, 1)", x.of(1, 1), 0);
        due(4, "of(2, 1)", x.of(2, 1), 5);
        due(5, "tear(0, false)", x.tear(0, false), 0);
        due(5, "tear(0, true)", x.tear(0, true), 1);
        due(5, "tear(0, true) again", x.tear(0, true), 0);
        due(5, "count(1)", x.count(1), 1);
        due(5, "tear(0, false)", x.tear(0, false), 1);
        due(5, "count(1)", x.count(1), 0);
        due(5, "tear(6, true)", x.tear(6, true), BEYOND);
        due(5, "tear(-1, false)", x.tear(-1, false), BEYOND);
        due(6, "become(3, 5)", x.become(3, 5), 3);
        due(6, "become(3, 5) again", x.become(3, 5), 5);
        due(6, "become(3, 6)", x.become(3, 6), BEYOND);
        due(6, "become(3, -1)", x.become(3, -1), BEYOND);
        due(6, "become(6, 0)", x.become(6, 0), BEYOND);
        due(6, "of(3, 0)", x.of(3, 0), 5);
    }

    private static void as() {
        LampShapes x = kinds(9);
        String[] upper = {"0", "01", "02", "013", "024", "015"};
        for (int s = 0; s < 6; s++) {
            for (int kind = 0; kind < 6; kind++) {
                boolean is = upper[s].indexOf('0' + kind) >= 0;
                due(7, "as(" + s + ", " + kind + ")", x.as(s, kind), is ? 9 : KIND);
            }
        }
        due(7, "as(0, 6)", x.as(0, 6), BEYOND);
        due(7, "as(0, -1)", x.as(0, -1), BEYOND);
        due(7, "as(6, 0)", x.as(6, 0), BEYOND);
        x.become(5, 4);
        due(7, "as(5, 1) of a DOUBLE", x.as(5, 1), KIND);
        due(7, "status(2)", x.status(2), 23);
    }

    private static void thrown() {
        LampShapes x = kinds(0x0001);
        long[][] corner = {{1, 1, 1, 1}, {1, 8, 0x8000, 0x1000}, {1, 8, 1, 8},
            {1, 8, 0x8000, 0x1000}, {0x11, 0x88, 0x11, 0x88}, {1, 8, 0x8000, 0x1000}};
        for (int s = 0; s < 6; s++) {
            for (int t = 0; t < 4; t++) {
                due(8, "thrown(" + s + ", " + t + ")", x.thrown(s, t), corner[s][t]);
            }
        }
        // A cross keeps its four arms alone; what lies at the edge is never within.
        x.cut(3, 0x0272);
        due(8, "a cross, hollow", x.thrown(3, 0), 0x0252);
        for (int lacking : new int[] {0x0270, 0x0262, 0x0232, 0x0072}) {
            x.cut(3, lacking);
            due(8, "a cross that lacks an arm", x.thrown(3, 0), lacking);
        }
        x.cut(3, 65535);
        due(8, "all points, hollow", x.thrown(3, 1), 0xF99F);
        x.cut(3, 0x0027);
        due(8, "at the edge, hollow", x.thrown(3, 0), 0x0027);
        x.cut(3, 0x0139);
        due(8, "the row before is not beside", x.thrown(3, 0), 0x0139);
        x.cut(2, 0x1248);
        due(8, "mirrored in each column", x.thrown(2, 3), 0x8421);
        x.cut(2, 0x137F);
        due(8, "mirrored, several in a row", x.thrown(2, 1), 0x8CEF);
        x.cut(4, 0xF00F);
        due(8, "the last row doubled", x.thrown(4, 0), 0xF0FF);
        // Filled within a row once turned, not along a column, and not beyond the row's end.
        x.cut(5, 0x1009);
        due(8, "filled", x.thrown(5, 0), 0x100F);
        due(8, "turned, then filled", x.thrown(5, 1), 0x800F);
        x.cut(5, 0x9999);
        due(8, "each row filled", x.thrown(5, 0), 65535);
        x.cut(5, 0x5A5A);
        due(8, "filled in between alone", x.thrown(5, 0), 0x7E7E);
        x.cut(5, 0x0018);
        due(8, "not over the row's end", x.thrown(5, 0), 0x0018);
        due(8, "thrown(0, 4)", x.thrown(0, 4), BEYOND);
        due(8, "thrown(0, -1)", x.thrown(0, -1), BEYOND);
        due(8, "thrown(6, 0)", x.thrown(6, 0), BEYOND);
        x.tear(0, true);
        due(8, "of one TORN", x.thrown(0, 0), 1);
    }

    private static void shadow() {
        LampShapes x = new LampShapes();
        x.shape(0, 0x8001);
        x.shape(1, 0x0003);
        due(9, "shadow(0, 4000)", x.shadow(0, 4000), 1L | 1L << 27);
        due(9, "shadow(0, 8000)", x.shadow(0, 8000), 0x303L | 0x303L << 54);
        due(9, "over the right edge", x.shadow(0, 4005), 1L << 5);
        due(9, "over the lower edge", x.shadow(0, 4051), 1L << 41);
        due(9, "at the last cell", x.shadow(0, 8077), 1L << 63);
        due(9, "half over the right edge", x.shadow(0, 8007), 1L << 7 | 1L << 15);
        due(9, "turned", x.shadow(1, 5000), 1L << 3 | 1L << 11);
        due(9, "turned off the sheet", x.shadow(1, 5005), 0);
        x.tear(0, true);
        due(9, "of one TORN", x.shadow(0, 4000), 1L | 1L << 27);
        for (int p : new int[] {-1, 0, 3077, 3999, 4008, 4078, 4080, 4100, 4999, 11078, 12000, MIN, MAX, -4000}) {
            due(9, "shadow(0, " + p + ")", x.shadow(0, p), BEYOND);
        }
        due(9, "shadow(2, 4000)", x.shadow(2, 4000), BEYOND);
        due(9, "shadow(-1, 4000)", x.shadow(-1, 4000), BEYOND);
    }

    private static void hands() {
        LampShapes x = kinds(1);
        due(10, "hold(5, 4000)", x.hold(5, 4000), 0);
        due(10, "hold(5, 4001)", x.hold(5, 4001), STATE);
        due(10, "hold(5, 4008)", x.hold(5, 4008), BEYOND);
        due(10, "hold(6, 4000)", x.hold(6, 4000), BEYOND);
        due(10, "hold(3, 11077)", x.hold(3, 11077), 1);
        due(10, "hold(2, 4000)", x.hold(2, 4000), 2);
        due(10, "hold(0, 4000)", x.hold(0, 4000), 3);
        due(10, "a 5th", x.hold(1, 4000), FULL);
        due(10, "held, and none free", x.hold(3, 4000), STATE);
        due(11, "move(3, 4001)", x.move(3, 4001), 11077);
        due(11, "move(3, 12000)", x.move(3, 12000), BEYOND);
        due(11, "move(1, 4000)", x.move(1, 4000), STATE);
        due(11, "move(6, 4000)", x.move(6, 4000), BEYOND);
        due(11, "held(1, 1)", x.held(1, 1), 4001);
        due(12, "drop(3)", x.drop(3), 1);
        due(12, "drop(3) again", x.drop(3), STATE);
        due(12, "drop(6)", x.drop(6), BEYOND);
        due(12, "drop(-1)", x.drop(-1), BEYOND);
        due(12, "count(3)", x.count(3), 3);
        due(10, "the first free again", x.hold(1, 4002), 1);
        due(13, "held(1, 0)", x.held(1, 0), 1);
        due(13, "held(1, 1)", x.held(1, 1), 4002);
        x.drop(1);
        due(13, "held(1, 0)", x.held(1, 0), -1);
        due(13, "held(1, 1)", x.held(1, 1), -1);
        due(13, "held(4, 0)", x.held(4, 0), BEYOND);
        due(13, "held(-1, 0)", x.held(-1, 0), BEYOND);
        due(13, "held(0, 2)", x.held(0, 2), BEYOND);
        due(13, "held(0, -1)", x.held(0, -1), BEYOND);
    }

    private static void darkSingleSpare() {
        LampShapes x = new LampShapes();
        x.shape(0, 0x000F);
        x.shape(0, 0x0003);
        x.shape(0, 0x0001);
        x.hold(2, 4077);
        x.hold(1, 4000);
        due(16, "none to spare", x.spare(), NONE);
        x.hold(0, 4000);
        due(14, "dark()", x.dark(), 0xFL | 1L << 63);
        due(15, "single()", x.single(), 0xCL | 1L << 63);
        due(16, "spare()", x.spare(), 1);
        x.move(2, 4001);
        due(15, "dark by three is not by one", x.single(), 0xC);
        due(16, "the least of several", x.spare(), 1);
        x.tear(1, true);
        due(14, "with one TORN", x.dark(), 0xF);
        due(15, "with one TORN", x.single(), 0xD);
        due(16, "not the one TORN", x.spare(), 2);
        x.tear(0, true);
        due(14, "with two TORN", x.dark(), 2);
        due(16, "with two TORN", x.spare(), NONE);
        x.cut(2, 0);
        due(16, "one that throws nothing", x.spare(), 2);
        x.tear(0, false);
        x.cut(0, 0);
        due(16, "the least of two that throw nothing", x.spare(), 0);
    }

    private static void sceneDrawPictureOff() {
        LampShapes x = new LampShapes();
        for (int i = 0; i < 7; i++) {
            due(17, "scene", x.scene(i == 6 ? Long.MIN_VALUE : i), i);
        }
        due(17, "an 8th", x.scene(0), FULL);
        due(19, "picture(5)", x.picture(5), 5);
        due(19, "picture(6)", x.picture(6), Long.MIN_VALUE);
        due(19, "picture(7)", x.picture(7), BEYOND);
        due(19, "picture(-1)", x.picture(-1), BEYOND);
        x.shape(0, 7);
        x.hold(0, 4000);
        due(20, "off(5)", x.off(5), 1);
        due(20, "off(6)", x.off(6), 4);
        due(20, "off(7)", x.off(7), BEYOND);
        due(20, "off(-1)", x.off(-1), BEYOND);
        due(18, "draw(6)", x.draw(6), 4);
        due(18, "picture(6)", x.picture(6), 7);
        due(18, "draw(6) again", x.draw(6), 0);
        due(18, "draw(7)", x.draw(7), BEYOND);
        due(18, "draw(-1)", x.draw(-1), BEYOND);
        due(18, "picture(5)", x.picture(5), 5);
    }

    private static void changesAllow() {
        LampShapes x = scenes(0, 1, 0xF, 0x1F, -1, 0);
        due(21, "alike", x.changes(0, 5), 0);
        due(21, "1 cell", x.changes(0, 1), 1);
        due(21, "4 cells", x.changes(2, 0), 1);
        due(21, "5 cells", x.changes(0, 3), 2);
        due(21, "64 cells", x.changes(0, 4), 16);
        due(21, "itself", x.changes(4, 4), 0);
        due(21, "changes(6, 0)", x.changes(6, 0), BEYOND);
        due(21, "changes(0, -1)", x.changes(0, -1), BEYOND);
        due(22, "allow(17)", x.allow(17), 63);
        due(22, "allow(15)", x.allow(15), BEYOND);
        due(22, "allow(48)", x.allow(48), BEYOND);
        due(22, "allow(64)", x.allow(64), BEYOND);
        due(22, "allow(81)", x.allow(81), BEYOND);
        due(22, "allow(-1)", x.allow(-1), BEYOND);
        due(22, "allow(63)", x.allow(63), 17);
        due(22, "count(6)", x.count(6), 63);
    }

    private static void nearestBest() {
        LampShapes x = scenes(1L << 63, 3L << 20, 0xFL << 8);
        x.shape(0, 1);
        x.shape(1, 0x0011);
        x.shape(1, 0x000F);
        due(23, "a cell at the end", x.nearest(0, 0, 0), 4077);
        due(23, "its OFF", x.nearest(0, 0, 1), 0);
        due(23, "with a turn", x.nearest(1, 1, 0), 5022);
        due(23, "its OFF", x.nearest(1, 1, 1), 0);
        x.allow(17);
        due(23, "without a turn", x.nearest(1, 1, 0), 4014);
        due(23, "its OFF", x.nearest(1, 1, 1), 2);
        x.allow(40);
        due(23, "what is ALLOWED alone", x.nearest(0, 0, 0), 11077);
        x.allow(63);
        due(23, "nearest(3, 0, 0)", x.nearest(3, 0, 0), BEYOND);
        due(23, "nearest(0, 3, 0)", x.nearest(0, 3, 0), BEYOND);
        due(23, "nearest(0, 0, 2)", x.nearest(0, 0, 2), BEYOND);
        due(23, "nearest(0, 0, -1)", x.nearest(0, 0, -1), BEYOND);
        due(24, "best(0), the least", x.best(0), 0);
        due(24, "best(1)", x.best(1), 1);
        due(24, "best(2)", x.best(2), 2);
        due(24, "best(3)", x.best(3), BEYOND);
        due(24, "best(-1)", x.best(-1), BEYOND);
        x.tear(0, true);
        due(23, "one TORN", x.nearest(0, 0, 1), 0);
        due(24, "without the one TORN", x.best(0), 1);
        x.tear(1, true);
        x.scene(-1);
        x.cut(2, 0);
        due(23, "nothing thrown, all wanted", x.nearest(2, 3, 0), 4000);
        due(23, "its OFF", x.nearest(2, 3, 1), 64);
        due(24, "as near as none", x.best(3), 2);
        x.tear(2, true);
        due(24, "all TORN", x.best(0), NONE);
        due(24, "best(4) with all TORN", x.best(4), BEYOND);
    }

    private static void play() {
        LampShapes x = scenes(0x0000000000000707L | 1L << 63, 0, -1);
        x.shape(0, 0x0001);
        x.shape(0, 0x0077);
        x.shape(0, 0x0001);
        x.shape(0, 0x0077);
        x.hold(0, 4044);
        due(25, "play(0)", x.play(0), 0);
        due(25, "the greatest gain first", x.held(0, 0), 1);
        due(25, "at its place", x.held(0, 1), 4000);
        due(25, "then the least SHAPE", x.held(1, 0), 0);
        due(25, "at its place", x.held(1, 1), 4077);
        due(25, "no more than are needed", x.count(3), 2);
        x.tear(1, true);
        due(25, "not the one TORN", x.play(0), 0);
        due(25, "held(0, 0)", x.held(0, 0), 3);
        due(25, "play(1)", x.play(1), 0);
        due(25, "all are dropped", x.count(3), 0);
        due(25, "play(3)", x.play(3), BEYOND);
        due(25, "play(-1)", x.play(-1), BEYOND);
        x.allow(17);
        due(25, "three are free", x.play(2), 64 - 6 - 1 - 1);
        due(25, "count(3)", x.count(3), 3);
        x.tear(1, false);
        x.shape(0, 0x0001);
        due(25, "four at most", x.play(2), 64 - 6 - 6 - 1 - 1);
        due(25, "the least SHAPE of alike ones first", x.held(0, 0), 1);
        due(25, "the least number of alike ones", x.held(0, 1), 4000);
        due(25, "beside it", x.held(1, 1), 4003);
        due(25, "held(2, 0)", x.held(2, 0), 0);
        due(25, "held(2, 1)", x.held(2, 1), 4006);
        due(25, "held(3, 0)", x.held(3, 0), 2);
        due(25, "held(3, 1)", x.held(3, 1), 4007);
    }

    private static void fitsTaken() {
        LampShapes x = scenes(0x0303, -1, 0, 0x0302);
        x.shape(0, 1);
        x.shape(1, 3);
        x.shape(1, 0);
        // Near 1: four cells by four turns; near 2: the whole square by four turns.
        due(26, "fits(0, 0)", x.fits(0, 0), 20);
        // Near 1 alone; once turned, it falls beside the square wherever it is placed.
        x.allow(16 + 15);
        due(26, "fits(1, 0)", x.fits(1, 0), 2);
        due(26, "what falls off the sheet counts as what is left", x.fits(0, 1), 256);
        due(26, "what throws nothing", x.fits(2, 1), 0);
        due(26, "nothing wanted", x.fits(0, 2), 0);
        x.tear(0, true);
        due(26, "TORN or not", x.fits(0, 1), 256);
        x.allow(17);
        due(26, "what is ALLOWED alone", x.fits(0, 0), 4);
        due(26, "fits(3, 0)", x.fits(3, 0), BEYOND);
        due(26, "fits(0, 4)", x.fits(0, 4), BEYOND);
        due(27, "taken(0, 0)", x.taken(0, 0), 0);
        due(27, "taken(0, 1)", x.taken(0, 1), 8);
        due(27, "taken(0, 4)", x.taken(0, 4), 12);
        due(27, "taken(0, 59)", x.taken(0, 59), 12);
        due(27, "taken(0, 60)", x.taken(0, 60), 14);
        due(27, "taken(2, 64)", x.taken(2, 64), 11);
        due(27, "taken(0, 65)", x.taken(0, 65), BEYOND);
        due(27, "taken(0, -1)", x.taken(0, -1), BEYOND);
        due(27, "taken(4, 0)", x.taken(4, 0), BEYOND);
    }

    private static void seenClosest() {
        LampShapes x = new LampShapes();
        due(28, "no SCENES", x.seen(), NONE);
        due(30, "no SCENES", x.closest(), NONE);
        x.scene(-1);
        due(28, "one", x.seen(), 0);
        due(30, "one", x.closest(), NONE);
        x.scene(0);
        due(30, "two", x.closest(), 64);
        x.scene(3);
        x.scene(6);
        x.shape(0, 2);
        x.hold(0, 4000);
        due(28, "the least of several", x.seen(), 1);
        x.cut(0, 7);
        due(28, "the least OFF", x.seen(), 2);
        due(30, "closest()", x.closest(), 2);
        x.scene(6);
        due(30, "two alike", x.closest(), 0);
    }

    private static void order() {
        LampShapes x = new LampShapes();
        due(29, "of none: the COST", x.order(-1), 0);
        due(29, "of none", x.order(0), NONE);
        due(29, "order(-2)", x.order(-2), BEYOND);
        long[] lines = {0xFFFL, 0, 0xFFL, 0xFFFFL, 0xFL};
        for (long p : lines) {
            x.scene(p);
        }
        // One change from each to the next: 1 4 2 0 3, and back the other way: 3 0 2 4 1.
        due(29, "order(-1)", x.order(-1), 4);
        int[] way = {1, 4, 2, 0, 3};
        for (int i = 0; i < 5; i++) {
            due(29, "order(" + i + ")", x.order(i), way[i]);
        }
        due(29, "order(5)", x.order(5), NONE);
        x.scene(0xFFFL);
        due(29, "six: the COST", x.order(-1), 4);
        due(29, "six: of alike ones the least first", x.order(3), 0);
        due(29, "six: then the other", x.order(4), 5);
        x.scene(0);
        due(29, "seven", x.order(-1), SIZE);
        due(29, "seven, and no such", x.order(9), SIZE);
        due(29, "seven, and below", x.order(-2), BEYOND);
    }

    private static void harmless() {
        LampShapes x = new LampShapes();
        due(31, "nothing at all", x.harmless(), NONE);
        x.shape(0, 1);
        due(31, "no SCENES", x.harmless(), NONE);
        x.scene(1);
        due(31, "the only one", x.harmless(), 0);
        x.shape(0, 2);
        // It throws the same cell only from column -1, which is no placing.
        due(31, "the best one is needed", x.harmless(), 2);
        x.shape(0, 1);
        due(31, "two that do alike", x.harmless(), 7);
        x.scene(0xFL);
        x.shape(0, 0xF);
        due(31, "needed for one SCENE", x.harmless(), 7);
        x.tear(2, true);
        due(31, "with one TORN", x.harmless(), 2);
        for (int s = 0; s < 4; s++) {
            x.tear(s, true);
        }
        due(31, "all TORN", x.harmless(), NONE);
    }

    private static void feedWipe() {
        LampShapes x = new LampShapes();
        due(32, "feed(0, 0)", x.feed(0, 0), BEYOND);
        due(32, "feed(0, 5)", x.feed(0, 5), BEYOND);
        due(32, "feed(0, -1)", x.feed(0, -1), BEYOND);
        due(32, "feed(-1, 3)", x.feed(-1, 3), 3);
        due(33, "wipe()", x.wipe(), 3);
        due(33, "wipe() again", x.wipe(), 0);
        // "drop" by its bytes, the highest first; of "?p" the lowest byte alone.
        due(32, "feed dr", x.feed(0x7F7F6472, 2), 2);
        due(32, "feed o", x.feed(0x6F, 1), 3);
        due(32, "feed p", x.feed(0x3F70, 1), 4);
        due(32, "text()", x.text(), 1);
        for (int i = 1; i <= 29; i++) {
            due(32, "feed four", x.feed(0x20202020, 4), 4 * i);
        }
        x.feed(0x202020, 3);
        due(32, "two more than it can", x.feed(0, 2), FULL);
        due(32, "wrong, and full", x.feed(0, 5), BEYOND);
        due(32, "the last", x.feed(0, 1), 120);
        due(32, "one too many", x.feed(0, 1), FULL);
        due(33, "wipe() of 120", x.wipe(), 120);
        due(33, "count(5)", x.count(5), 0);
    }

    private static void textThatStands() {
        LampShapes x = new LampShapes();
        due(34, "all kinds of ITEMS", tell(x, "shape #;turned .# #;scene ########.#"), -27);
        due(34, "nothing came", x.count(0) + x.count(2), 0);
        due(34, "THE TAPE is empty", x.count(5), 0);
        due(34, "two SHAPES, a SCENE", tell(x, " shape #;turned .# #;scene #.......  .####### "), 3);
        due(34, "of(0, 1)", x.of(0, 1), 1);
        due(34, "of(1, 0)", x.of(1, 0), 1);
        due(34, "of(1, 1)", x.of(1, 1), 0x12);
        due(34, "picture(0)", x.picture(0), 0xFE01);
        due(34, "hold and torn", tell(x, "hold 1near2turn3at 0 07;torn 0;hold 0 near 01 turn 0 at 7 7"), 3);
        due(34, "held(0, 1)", x.held(0, 1), 11007);
        due(34, "held(1, 1)", x.held(1, 1), 4077);
        due(34, "of(0, 2)", x.of(0, 2), 1);
        due(34, "held, dropped, held", tell(x, "drop;hold 0 near 1 turn 0 at 0 0;torn 0"), 3);
        due(34, "held(0, 0)", x.held(0, 0), 0);
        due(34, "count(3)", x.count(3), 1);
        due(34, "what it makes it may hold", tell(x, "mirrored #;hold 2 near 1 turn 1 at 1 1;hollow #;double #;filled #"), 5);
        due(34, "of(2, 0)", x.of(2, 0), 2);
        due(34, "of(3, 0)", x.of(3, 0), 3);
        due(34, "of(4, 0)", x.of(4, 0), 4);
        due(34, "of(5, 0)", x.of(5, 0), 5);
        due(34, "the whole of the squares", tell(x, "shape #### #### #### ####;scene # # # # # # # ........"), 2);
        due(34, "of(6, 1)", x.of(6, 1), 65535);
        due(34, "picture(1)", x.picture(1), 0x01010101010101L);
        due(34, "bit 63", tell(x, "scene . . . . . . . .......#"), 1);
        due(34, "picture(2)", x.picture(2), Long.MIN_VALUE);
        due(34, "no finding", x.status(-1), 0);
    }

    private static void textWithFaults() {
        told("", -1);
        told("   ", -4);
        told("drop;", -6);
        told("drop; ", -7);
        told(";", -1);
        told("drop;;drop", -6);
        told("drop drop", -6);
        told("dropdrop", -1);
        told("Drop", -1);
        told("hrop", -1);
        told("dropz", -1);
        told("dropa", -1);
        told(" 7", -2);
        told("#", -1);
        told("drop\n", -5);
        told("drop;\tdrop", -6);
        told("drop" + (char) 200, -5);
        told("drop" + (char) 0, -5);
        told("shape", -6);
        told("shape ", -7);
        told("shape;", -6);
        told("shape # drop", -9);
        told("shape 1", -7);
        told("shape #####", -7);
        told("shape # # # # #", -15);
        told("scene #########", -7);
        told("scene # # # # # # # # #", -23);
        told("scene # # # # # # # #", 1);
        told("shapes #", -1);
        told("shape ;drop", -7);
        told("scene", -6);
        told("scene ;drop", -7);
        told("shape #;torn;drop", -13);
        told("shape #;torn 09", -14);
        told("shape #;torn 00", 2);
        told("shape #;hold;drop", -13);
        told("shape #;hold 0;drop", -15);
        told("shape #;hold 0 near;drop", -20);
        told("shape #;hold 0 near 1;drop", -22);
        told("shape #;hold 0 near 1 turn;drop", -27);
        told("shape #;hold 0 near 1 turn 0;drop", -29);
        told("shape #;hold 0 near 1 turn 0 at;drop", -32);
        told("shape #;hold 0 near 1 turn 0 at 0;drop", -34);
        told("shape #;hold 0 near 1 turn 0 at 0 0;drop", 3);
        told("torn 0", -6);
        told("torn", -5);
        told("shape #;torn 1", -14);
        told("shape #;torn 0 0", -16);
        told("shape #;torn 99999999990", -14);
        told("shape #;torn 4294967296", -14);
        told("shape #;torn 0000000000000", 2);
        told("hold 0", -6);
        told("shape #;hold", -13);
        told("shape #;hold 0 far", -16);
        told("shape #;hold 0 near", -20);
        told("shape #;hold 0 near 0", -21);
        told("shape #;hold 0 near 3", -21);
        told("shape #;hold 0 near 2 turn 4", -28);
        told("shape #;hold 0 near 2 turn 3 at 8", -33);
        told("shape #;hold 0 near 2 turn 3 at 7 8", -35);
        told("shape #;hold 0 near 2 turn 3 at 77", -33);
        told("shape #;hold 0 near 2 turn 3 at 7", -34);
        told("shape #;hold 0 near 2 turn 3 at 7 7", 2);
        told("shape #;hold 0 near 2 turn 3 at 7 7 7", -37);
        told("shape #;hold 0 near 2 turn 3 at 7 7;hold 0", -42);
        // A fault of what comes first is told, whatever comes behind it.
        told("shape # ! #####", -9);
        told("shape ##### !", -7);
    }

    private static void textAtLimits() {
        LampShapes x = new LampShapes();
        for (int i = 0; i < 9; i++) {
            x.shape(0, 1);
        }
        for (int i = 0; i < 6; i++) {
            x.scene(i);
        }
        due(34, "a 10th SHAPE", tell(x, "drop; shape"), -7);
        due(34, "a 7th SCENE", tell(x, "scene #"), 1);
        due(34, "an 8th SCENE", tell(x, "drop; scene 1"), -7);
        for (int i = 0; i < 4; i++) {
            x.hold(i, 4000);
        }
        due(34, "hold without a free one", tell(x, "torn 8; hold 77"), -9);
        due(34, "nothing is TORN by a fault", x.count(1), 0);
        due(34, "nothing is dropped by a fault", tell(x, "drop; hold 8 near 1 turn 0 at 0 8"), -33);
        due(34, "count(3)", x.count(3), 4);
        due(34, "after a drop", tell(x, "drop; hold 8 near 1 turn 0 at 0 7"), 2);
        due(34, "held(0, 0)", x.held(0, 0), 8);
        due(34, "in the first that is free", tell(x, "hold 0 near 1 turn 0 at 0 0"), 1);
        x.drop(8);
        due(34, "in the first that is free", tell(x, "hold 1 near 1 turn 0 at 0 0"), 1);
        due(34, "held(0, 0)", x.held(0, 0), 1);
        due(34, "120 bytes", tell(x, "drop;".repeat(23) + " drop"), 24);
        due(34, "120 bytes and a fault", tell(x, "drop;".repeat(24)), -121);
        due(34, "status(-1)", x.status(-1), 0);
    }

    private static void sheetWrite() {
        LampShapes x = new LampShapes();
        due(35, "sheet(4, 8, 1)", x.sheet(4, 8, 1), BEYOND);
        due(35, "sheet(-1, 8, 1)", x.sheet(-1, 8, 1), BEYOND);
        due(35, "sheet(0, 32, 1)", x.sheet(0, 32, 1), BEYOND);
        due(35, "sheet(0, 7, -1)", x.sheet(0, 7, -1), BEYOND);
        due(35, "sheet(0, 8, -1)", x.sheet(0, 8, -1), SIZE);
        due(35, "sheet(0, 0, -1)", x.sheet(0, 0, -1), SIZE);
        due(35, "sheet(0, 8, 41)", x.sheet(0, 8, 41), BEYOND);
        due(35, "sheet(0, 0, 41)", x.sheet(0, 0, 41), BEYOND);
        due(36, "a MISSING one", x.write(0, 0, 1), MISSING);
        due(35, "sheet(0, 8, 40)", x.sheet(0, 8, 40), 40);
        due(36, "write(0, 39, 511)", x.write(0, 39, 511), 0);
        due(36, "its lowest 8 bits", x.write(0, 39, -1), 255);
        due(36, "write(0, 40, 0)", x.write(0, 40, 0), BEYOND);
        due(36, "write(0, -1, 0)", x.write(0, -1, 0), BEYOND);
        due(36, "write(4, 0, 0)", x.write(4, 0, 0), BEYOND);
        x.write(0, 0, 9);
        due(35, "sheet(0, 16, 40)", x.sheet(0, 16, 40), 40);
        due(35, "all are 0 again, the first too", x.write(0, 0, 9), 0);
        due(35, "all are 0 again", x.write(0, 39, 65536 + 5), 0);
        due(36, "its lowest 16 bits", x.write(0, 39, -1), 5);
        due(36, "its lowest 16 bits", x.write(0, 39, 0), 65535);
        due(35, "sheet(0, 64, 1)", x.sheet(0, 64, 1), 1);
        due(36, "write(0, 0, MIN)", x.write(0, 0, Long.MIN_VALUE), 0);
        due(36, "all 64 bits", x.write(0, 0, 7), Long.MIN_VALUE);
        due(36, "write(0, 1, 0)", x.write(0, 1, 0), BEYOND);
        due(35, "sheet(0, 0, 40)", x.sheet(0, 0, 40), 0);
        due(36, "MISSING again", x.write(0, 50, 0), MISSING);
        due(35, "sheet(0, 8, 0)", x.sheet(0, 8, 0), 0);
        due(36, "one without numbers", x.write(0, 0, 0), BEYOND);
    }

    private static void copy() {
        LampShapes x = new LampShapes();
        x.sheet(0, 8, 5);
        x.sheet(1, 8, 3);
        x.sheet(2, 16, 5);
        for (int i = 0; i < 5; i++) {
            x.write(0, i, 10 + i);
        }
        due(37, "copy(0, 2, 1, 0, 3)", x.copy(0, 2, 1, 0, 3), 3);
        due(37, "its first", x.write(1, 0, 0), 12);
        due(37, "its last", x.write(1, 2, 0), 14);
        due(37, "onto itself", x.copy(0, 0, 0, 1, 4), 4);
        due(37, "as they all were", x.write(0, 4, 0), 13);
        due(37, "as they all were", x.write(0, 1, 0), 10);
        due(37, "none", x.copy(0, 5, 1, 3, 0), 0);
        due(37, "one too many there", x.copy(0, 0, 1, 0, 4), BEYOND);
        due(37, "one too many here", x.copy(1, 1, 0, 0, 3), BEYOND);
        due(37, "from below 0", x.copy(0, -1, 1, 0, 1), BEYOND);
        due(37, "to below 0", x.copy(0, 0, 1, -1, 1), BEYOND);
        due(37, "n below 0", x.copy(0, 0, 1, 0, -1), BEYOND);
        due(37, "MAX on MAX", x.copy(0, MAX, 1, MAX, MAX), BEYOND);
        due(37, "from beyond, none", x.copy(0, 6, 1, 0, 0), BEYOND);
        due(37, "other bits", x.copy(0, 0, 2, 0, -1), KIND);
        due(37, "a MISSING one", x.copy(0, 0, 3, 0, 1), MISSING);
        due(37, "from a MISSING one", x.copy(3, 0, 2, 0, 1), MISSING);
        due(37, "no such one", x.copy(4, 0, 3, 0, 1), BEYOND);
        due(37, "no such one", x.copy(3, 0, -1, 0, 1), BEYOND);
    }

    private static void laysFilmRead() {
        LampShapes x = scenes(5, 6, 7);
        due(38, "lays(0)", x.lays(0), MISSING);
        due(38, "lays(4)", x.lays(4), BEYOND);
        x.sheet(0, 8, 2);
        x.write(0, 0, -1);
        due(38, "lays(0)", x.lays(0), 2);
        due(38, "8 bits as 64", x.picture(0), 255);
        due(38, "picture(1)", x.picture(1), 0);
        due(38, "picture(2)", x.picture(2), 7);
        x.sheet(1, 64, 40);
        x.write(1, 2, Long.MIN_VALUE);
        due(38, "more than there are SCENES", x.lays(1), 3);
        due(38, "picture(2)", x.picture(2), Long.MIN_VALUE);
        due(38, "count(2)", x.count(2), 3);
        x.shape(0, 0x8421);
        x.hold(0, 8000);
        // Rows by pairs: 3, 12, 48, 192.
        due(39, "film(3)", x.film(3), MISSING);
        due(39, "film(4)", x.film(4), BEYOND);
        due(39, "film(-1)", x.film(-1), BEYOND);
        due(39, "as far as it has numbers", x.film(0), 2);
        due(39, "row 0", x.write(0, 0, 3 + 256), 3);
        x.write(1, 8, 99);
        due(39, "eight at most", x.film(1), 8);
        due(39, "row 7", x.write(1, 7, 192 + 65536), 192);
        due(39, "behind them", x.write(1, 8, 98), 99);
        due(40, "all are", x.read(0), 0);
        due(40, "the lowest 8 bits, 8 at most", x.read(1), 0);
        x.write(1, 7, 193);
        due(40, "the last isn't", x.read(1), 8);
        x.write(1, 0, 4);
        due(40, "the first isn't", x.read(1), 1);
        x.sheet(2, 16, 0);
        due(40, "no numbers", x.read(2), 0);
        due(40, "read(3)", x.read(3), MISSING);
        due(40, "read(4)", x.read(4), BEYOND);
    }

    private static void images() {
        LampShapes x = kinds(3);
        x.scene(9);
        x.allow(17);
        x.hold(2, 4011);
        x.tear(1, true);
        due(41, "image()", x.image(), 1);
        x.become(0, 5);
        x.cut(0, 8);
        x.tear(1, false);
        x.move(2, 4000);
        x.hold(3, 4000);
        x.scene(4);
        x.draw(0);
        x.allow(63);
        x.shape(0, 0);
        x.feed(0, 2);
        x.sheet(0, 8, 1);
        x.write(0, 0, 6);
        x.shape(9, 9);
        due(42, "undo()", x.undo(), 6);
        due(42, "of(0, 0)", x.of(0, 0), 0);
        due(42, "of(0, 1)", x.of(0, 1), 3);
        due(42, "of(1, 2)", x.of(1, 2), 1);
        due(42, "held(0, 1)", x.held(0, 1), 4011);
        due(42, "count(3)", x.count(3), 1);
        due(42, "count(2)", x.count(2), 1);
        due(42, "picture(0)", x.picture(0), 9);
        due(42, "count(6)", x.count(6), 17);
        due(42, "THE TAPE stays", x.count(5), 2);
        due(42, "sheets stay", x.write(0, 0, 1), 6);
        due(42, "status(0) stays", x.status(0), 1);
        x.cut(0, 1);
        due(42, "it stays kept", x.undo(), 6);
        due(42, "as it was", x.of(0, 1), 3);
        x.shape(0, 0);
        x.image();
        x.shape(0, 0);
        due(42, "the latest", x.undo(), 7);
        due(43, "forget()", x.forget(), 1);
        due(43, "forget() again", x.forget(), 0);
        due(42, "nothing is kept", x.undo(), NONE);
        due(43, "what is there stays", x.count(0), 7);
        due(41, "image() again", x.image(), 1);
        due(43, "forget()", x.forget(), 1);
    }

    private static void countStatus() {
        LampShapes x = kinds(1);
        x.scene(0);
        x.scene(1);
        x.tear(3, true);
        x.tear(4, true);
        x.tear(5, true);
        x.hold(0, 8000);
        x.hold(3, 4077);
        x.feed(0, 4);
        int[] counts = {6, 3, 2, 2, 4, 4, 63};
        for (int what = 0; what < 7; what++) {
            due(44, "count(" + what + ")", x.count(what), counts[what]);
        }
        due(44, "count(7)", x.count(7), BEYOND);
        due(44, "count(-1)", x.count(-1), BEYOND);
        due(45, "status(0)", x.status(0), 2);
        due(45, "status(7)", x.status(7), BEYOND);
        due(45, "status(-2)", x.status(-2), BEYOND);
        due(45, "counted from then on", x.status(0), 4);
        x.shape(0, 0);
        x.shape(0, 0);
        x.shape(0, 0);
        x.shape(0, 0);
        x.as(0, 1);
        x.as(0, 2);
        x.closest();
        x.undo();
        x.spare();
        x.drop(1);
        x.lays(0);
        x.sheet(0, 8, -1);
        x.shadow(0, 1);
        x.picture(9);
        x.write(0, 0, 0);
        int[] findings = {6, 1, 2, 2, 1, 2, 1};
        int all = 0;
        for (int which = 0; which < 7; which++) {
            due(45, "status(" + which + ")", x.status(which), findings[which]);
            all += findings[which];
        }
        due(45, "status(-1)", x.status(-1), all);
        // A number that is written and looks like a finding is none.
        x.sheet(0, 64, 1);
        x.write(0, 0, BEYOND);
        due(45, "write answers a number", x.write(0, 0, 0), BEYOND);
        due(45, "status(-1) again", x.status(-1), all);
    }

    public static void main(String[] args) {
        newObject();
        shape();
        of();
        cutTearBecome();
        as();
        thrown();
        shadow();
        hands();
        darkSingleSpare();
        sceneDrawPictureOff();
        changesAllow();
        nearestBest();
        play();
        fitsTaken();
        seenClosest();
        order();
        harmless();
        feedWipe();
        textThatStands();
        textWithFaults();
        textAtLimits();
        sheetWrite();
        copy();
        laysFilmRead();
        images();
        countStatus();
        System.out.println(wrong == 0 ? "all answers are as due" : wrong + " answers are not as due");
        if (wrong != 0) {
            System.exit(1);
        }
    }
}
