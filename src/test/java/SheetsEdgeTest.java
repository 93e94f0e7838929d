/** Boundary cases of the sheets: section 3 of the terms, promises 35 to 40. */
public final class SheetsEdgeTest extends Edges {
    private static final int[] NO_SHEETS = {-1, 4, MIN, MAX};
    private static final int[] WIDTHS = {8, 16, 64};

    /** Sheet 0 of so many bits, with these numbers. */
    private static LampShapes paper(int bits, long... numbers) {
        LampShapes x = new LampShapes();
        x.sheet(0, bits, numbers.length);
        for (int i = 0; i < numbers.length; i++) {
            x.write(0, i, numbers[i]);
        }
        return x;
    }

    private static void isPaper(LampShapes x, int s, long... numbers) {
        for (int i = 0; i < numbers.length; i++) {
            due("number " + i + " of sheet " + s, x.write(s, i, 0), numbers[i]);
        }
        due("behind the last number of sheet " + s, x.write(s, numbers.length, 0), BEYOND);
    }

    private static void newSheet() {
        says(0, "SHEETS 0 to 3 are rows of at most 40 numbers of 8, 16 or 64 bits");
        for (int bits : WIDTHS) {
            for (int s = 0; s < 4; s++) {
                LampShapes x = empty();
                due("40 numbers", x.sheet(s, bits, 40), 40);
                due("the last one", x.write(s, 39, 1), 0);
                due("one behind it", x.write(s, 40, 1), BEYOND);
            }
        }
        says(35, "A sheet has n numbers, all 0");
        for (int bits : WIDTHS) {
            LampShapes x = paper(8, 1, 2, 3);
            due("of " + bits + " bits anew", x.sheet(0, bits, 3), 3);
            isPaper(x, 0, 0, 0, 0);
            LampShapes none = paper(bits, 1);
            due("no numbers", none.sheet(0, bits, 0), 0);
            isPaper(none, 0);
            due("it isn't MISSING", none.film(0), 0);
            none.sheet(0, bits, 1);
            isPaper(none, 0, 0);
        }
        says(35, "bits 0: it is MISSING: n (0 if it is MISSING)");
        for (int n : new int[] {0, 1, 40}) {
            LampShapes x = paper(64, 7);
            due("sheet(0, 0, " + n + ")", x.sheet(0, 0, n), 0);
            due("it is MISSING", x.film(0), MISSING);
            x.sheet(0, 64, 1);
            isPaper(x, 0, 0);
        }
        says(35, "BEYOND: no such sheet");
        for (int s : NO_SHEETS) {
            refused(Edges::busy, "sheet(" + s + ", 8, 1)", BEYOND, y -> y.sheet(s, 8, 1));
            refused(Edges::busy, "sheet(" + s + ", 0, 0)", BEYOND, y -> y.sheet(s, 0, 0));
        }
        says(35, "BEYOND: [..] other bits");
        for (int bits : new int[] {-64, -8, -1, 1, 4, 7, 9, 15, 17, 24, 32, 63, 65, 128, 264, MIN, MAX}) {
            refused(Edges::busy, "sheet(0, " + bits + ", 1)", BEYOND, y -> y.sheet(0, bits, 1));
        }
        says(35, "SIZE: n is below 0 (also with bits 0).");
        for (int bits : new int[] {0, 8, 16, 64}) {
            for (int n : new int[] {-1, -40, MIN}) {
                refused(Edges::busy, "sheet(0, " + bits + ", " + n + ")", SIZE, y -> y.sheet(0, bits, n));
                refused(Edges::busy, "sheet(3, " + bits + ", " + n + ")", SIZE, y -> y.sheet(3, bits, n));
            }
        }
        says(35, "BEYOND: n is above 40 (also with bits 0).");
        for (int bits : new int[] {0, 8, 16, 64}) {
            for (int n : new int[] {41, 42, 256, MAX}) {
                refused(Edges::busy, "sheet(0, " + bits + ", " + n + ")", BEYOND, y -> y.sheet(0, bits, n));
            }
        }
        says(35, "BEYOND: no such sheet, other bits [before] SIZE");
        refused(Edges::busy, "sheet(4, 8, -1)", BEYOND, y -> y.sheet(4, 8, -1));
        refused(Edges::busy, "sheet(0, 7, -1)", BEYOND, y -> y.sheet(0, 7, -1));
    }

    private static void writeOne() {
        says(36, "Number i of a sheet becomes v (its lowest bits): what it was.");
        long[] values = {0, 1, 127, 128, 255, 256, 32767, 32768, 65535, 65536, -1, CELL_63, Long.MAX_VALUE, 0x123456789ABCDEFL};
        for (int bits : WIDTHS) {
            for (long v : values) {
                due(bits + " bits of " + v, paper(bits, v).write(0, 0, 0), v & lowest(bits));
            }
        }
        LampShapes x = paper(64, 5, 6, 7);
        due("the first", x.write(0, 0, 1), 5);
        due("the last", x.write(0, 2, 3), 7);
        isPaper(x, 0, 1, 6, 3);
        says(36, "BEYOND: no such sheet.");
        for (int s : NO_SHEETS) {
            refused(Edges::busy, "write(" + s + ", 0, 1)", BEYOND, y -> y.write(s, 0, 1));
        }
        says(36, "MISSING.");
        refused(Edges::busy, "write(3, 0, 1)", MISSING, y -> y.write(3, 0, 1));
        says(36, "BEYOND: no such number.");
        for (int i : new int[] {-1, 3, 39, 40, MIN, MAX}) {
            refused(Edges::busy, "write(0, " + i + ", 1)", BEYOND, y -> y.write(0, i, 1));
        }
        refused(Edges::full, "write(0, 40, 1)", BEYOND, y -> y.write(0, 40, 1));
        refused(() -> paper(8), "the first of no numbers", BEYOND, y -> y.write(0, 0, 1));
        says(36, "BEYOND [before] MISSING [before] BEYOND");
        for (int i : new int[] {-1, 40, MIN, MAX}) {
            refused(Edges::busy, "write(3, " + i + ", 1)", MISSING, y -> y.write(3, i, 1));
            refused(Edges::busy, "write(4, " + i + ", 1)", BEYOND, y -> y.write(4, i, 1));
        }
    }

    private static LampShapes two(int bits, int otherBits) {
        LampShapes x = paper(bits, 1, 2, 3, 4, 5);
        x.sheet(1, otherBits, 3);
        x.write(1, 0, 7);
        x.write(1, 1, 8);
        x.write(1, 2, 9);
        return x;
    }

    private static void copyMany() {
        says(37, "n numbers of a sheet from one on come to another one from one on [..]: n.");
        for (int bits : WIDTHS) {
            LampShapes x = two(bits, bits);
            due("the last three", x.copy(0, 2, 1, 0, 3), 3);
            isPaper(x, 1, 3, 4, 5);
            LampShapes last = two(bits, bits);
            due("the last onto the last", last.copy(0, 4, 1, 2, 1), 1);
            isPaper(last, 1, 7, 8, 5);
            LampShapes none = two(bits, bits);
            due("none, from behind the last", none.copy(0, 5, 1, 3, 0), 0);
            due("none, from the first", none.copy(0, 0, 1, 0, 0), 0);
            isPaper(none, 1, 7, 8, 9);
        }
        LampShapes all = full();
        all.write(0, 0, 5);
        due("all forty", all.copy(0, 0, 2, 0, 40), 40);
        due("the first", all.write(2, 0, 0), 5);
        due("the last", all.write(2, 39, 0), 77);
        says(37, "(as they all were)");
        LampShapes up = two(8, 8);
        due("onto itself, upward", up.copy(0, 0, 0, 1, 4), 4);
        isPaper(up, 0, 1, 1, 2, 3, 4);
        LampShapes down = two(8, 8);
        due("onto itself, downward", down.copy(0, 1, 0, 0, 4), 4);
        isPaper(down, 0, 2, 3, 4, 5, 5);
        LampShapes there = two(8, 8);
        due("onto where it is", there.copy(0, 0, 0, 0, 5), 5);
        isPaper(there, 0, 1, 2, 3, 4, 5);
    }

    private static void copyRefused() {
        says(37, "BEYOND: no such sheet (either).");
        for (int s : NO_SHEETS) {
            refused(Edges::busy, "copy(" + s + ", 0, 0, 0, 0)", BEYOND, y -> y.copy(s, 0, 0, 0, 0));
            refused(Edges::busy, "copy(0, 0, " + s + ", 0, 0)", BEYOND, y -> y.copy(0, 0, s, 0, 0));
        }
        says(37, "MISSING: one is.");
        refused(Edges::busy, "copy(3, 0, 0, 0, 0)", MISSING, y -> y.copy(3, 0, 0, 0, 0));
        refused(Edges::busy, "copy(0, 0, 3, 0, 0)", MISSING, y -> y.copy(0, 0, 3, 0, 0));
        refused(Edges::busy, "copy(3, 0, 3, 0, 0)", MISSING, y -> y.copy(3, 0, 3, 0, 0));
        says(37, "KIND: they are not of as many bits.");
        for (int bits : WIDTHS) {
            for (int otherBits : WIDTHS) {
                if (bits != otherBits) {
                    refused(() -> two(bits, otherBits), "copy(0, 0, 1, 0, 1)", KIND, y -> y.copy(0, 0, 1, 0, 1));
                    refused(() -> two(bits, otherBits), "copy(0, 0, 1, 0, 0)", KIND, y -> y.copy(0, 0, 1, 0, 0));
                }
            }
        }
        says(37, "BEYOND: one has not so many");
        int[][] toomany = {{0, 0, 4}, {0, 1, 3}, {0, 3, 1}, {0, 4, 0}, {4, 0, 2}, {5, 0, 1}, {6, 0, 0}, {3, 0, 3},
            {MAX, 0, 1}, {0, MAX, 1}, {0, 0, MAX}, {1, 0, MAX}, {0, 1, MAX}, {MAX, MAX, MAX}, {MAX, 0, 0}, {0, MAX, 0}};
        for (int[] c : toomany) {
            refused(() -> two(8, 8), "copy(0, " + c[0] + ", 1, " + c[1] + ", " + c[2] + ")", BEYOND,
                y -> y.copy(0, c[0], 1, c[1], c[2]));
        }
        refused(() -> two(8, 8), "copy(1, 0, 0, 0, 4)", BEYOND, y -> y.copy(1, 0, 0, 0, 4));
        refused(() -> two(8, 8), "copy(0, 0, 0, 1, 5)", BEYOND, y -> y.copy(0, 0, 0, 1, 5));
        refused(Edges::full, "copy(0, 0, 2, 0, 41)", BEYOND, y -> y.copy(0, 0, 2, 0, 41));
        says(37, "BEYOND: [..] or from, to or n is below 0");
        for (int below : new int[] {-1, -5, MIN}) {
            refused(() -> two(8, 8), "from " + below, BEYOND, y -> y.copy(0, below, 1, 0, 1));
            refused(() -> two(8, 8), "from " + below + ", none", BEYOND, y -> y.copy(0, below, 1, 0, 0));
            refused(() -> two(8, 8), "to " + below, BEYOND, y -> y.copy(0, 0, 1, below, 1));
            refused(() -> two(8, 8), "to " + below + ", none", BEYOND, y -> y.copy(0, 0, 1, below, 0));
            refused(() -> two(8, 8), "n " + below, BEYOND, y -> y.copy(0, 0, 1, 0, below));
            refused(() -> two(8, 8), "n " + below + " from behind", BEYOND, y -> y.copy(0, 5, 1, 3, below));
            refused(() -> two(8, 8), "all below", BEYOND, y -> y.copy(0, below, 1, below, below));
        }
        says(37, "BEYOND [before] MISSING [before] KIND [before] BEYOND");
        refused(Edges::busy, "copy(4, 0, 3, 0, 1)", BEYOND, y -> y.copy(4, 0, 3, 0, 1));
        refused(Edges::busy, "copy(3, 0, 4, 0, 1)", BEYOND, y -> y.copy(3, 0, 4, 0, 1));
        refused(Edges::busy, "copy(3, -1, 0, 0, -1)", MISSING, y -> y.copy(3, -1, 0, 0, -1));
        refused(Edges::busy, "copy(0, 0, 3, 0, 50)", MISSING, y -> y.copy(0, 0, 3, 0, 50));
        refused(Edges::busy, "copy(0, -1, 1, 0, 1)", KIND, y -> y.copy(0, -1, 1, 0, 1));
        refused(Edges::busy, "copy(0, 0, 2, 0, 50)", KIND, y -> y.copy(0, 0, 2, 0, 50));
    }

    private static LampShapes withScenes(LampShapes x, long... pictures) {
        for (long p : pictures) {
            x.scene(p);
        }
        return x;
    }

    private static void laysAll() {
        says(38, "Numbers of a sheet are PICTURES of SCENES 0, 1, .. (as 64 bits");
        for (int bits : WIDTHS) {
            LampShapes x = withScenes(paper(bits, -1, 0, CELL_63 | 1), 9, 9, 9);
            due("three of " + bits + " bits", x.lays(0), 3);
            due("picture(0)", x.picture(0), lowest(bits));
            due("picture(1)", x.picture(1), 0);
            due("picture(2)", x.picture(2), bits == 64 ? CELL_63 | 1 : 1);
        }
        says(38, "those that stand for none are left out): how many came");
        LampShapes more = withScenes(paper(64, 1, 2, 3), 9, 9);
        due("more numbers than SCENES", more.lays(0), 2);
        due("picture(1)", more.picture(1), 2);
        due("no SCENE came", more.count(2), 2);
        LampShapes fewer = withScenes(paper(64, 1), 8, 9);
        due("fewer numbers than SCENES", fewer.lays(0), 1);
        due("picture(0)", fewer.picture(0), 1);
        due("picture(1)", fewer.picture(1), 9);
        LampShapes none = withScenes(paper(64), 9);
        due("no numbers", none.lays(0), 0);
        due("picture(0)", none.picture(0), 9);
        due("no SCENES", paper(64, 1, 2).lays(0), 0);
        due("forty numbers, seven SCENES", full().lays(0), 7);
        says(38, "BEYOND: no such sheet.");
        for (int s : NO_SHEETS) {
            refused(Edges::busy, "lays(" + s + ")", BEYOND, y -> y.lays(s));
        }
        says(38, "MISSING.");
        refused(Edges::busy, "lays(3)", MISSING, y -> y.lays(3));
    }

    /** What is dark: in row r the columns up to r, so that row 7 is 255; sheet 0 is given. */
    private static LampShapes stairs(LampShapes x) {
        x.shape(0, 0xF731);
        x.shape(0, 65535);
        x.hold(0, 4000);
        x.hold(1, 4040);
        x.shape(0, 0xF731);
        x.hold(2, 4044);
        return x;
    }

    private static final long[] STEPS = {1, 3, 7, 15, 31, 63, 127, 255};

    private static void filmAll() {
        says(39, "ROWS 0 to 7 of DARK (8 bits each, COLUMN 0 the lowest) come to a sheet");
        for (int bits : WIDTHS) {
            LampShapes x = stairs(paper(bits, 9, 9, 9, 9, 9, 9, 9, 9));
            due("eight rows", x.film(0), 8);
            isPaper(x, 0, STEPS);
            LampShapes nothing = paper(bits, 9, 9, 9, 9, 9, 9, 9, -1);
            due("nothing is dark", nothing.film(0), 8);
            isPaper(nothing, 0, 0, 0, 0, 0, 0, 0, 0, 0);
        }
        LampShapes column = paper(8, 9, 9);
        column.shape(0, 1);
        column.hold(0, 4017);
        due("two rows", column.film(0), 2);
        isPaper(column, 0, 0, 128);
        says(39, "as far as it has numbers: how many");
        for (int n = 0; n <= 9; n++) {
            LampShapes x = stairs(paper(16, new long[n]));
            due("film of " + n, x.film(0), Math.min(n, 8));
            for (int i = 0; i < n; i++) {
                due("number " + i, x.write(0, i, 0), i < 8 ? STEPS[i] : 0);
            }
        }
        LampShapes forty = full();
        due("film of forty", forty.film(0), 8);
        due("the last stays", forty.write(0, 39, 0), 77);
        says(39, "BEYOND: no such sheet.");
        for (int s : NO_SHEETS) {
            refused(Edges::busy, "film(" + s + ")", BEYOND, y -> y.film(s));
        }
        says(39, "MISSING.");
        refused(Edges::busy, "film(3)", MISSING, y -> y.film(3));
    }

    private static void readAll() {
        says(40, "ROWS of DARK: 0 if all are; else 1 and the place of the first that isn't");
        for (int wrongOne = 0; wrongOne < 8; wrongOne++) {
            long[] numbers = STEPS.clone();
            due("all are", stairs(paper(8, numbers)).read(0), 0);
            numbers[wrongOne] ^= 128;
            due("number " + wrongOne + " isn't", stairs(paper(8, numbers)).read(0), 1 + wrongOne);
            numbers[7] ^= 1;
            due("and the last isn't", stairs(paper(8, numbers)).read(0), 1 + wrongOne);
        }
        due("no numbers", stairs(paper(8)).read(0), 0);
        due("fewer than eight", stairs(paper(8, 1, 3)).read(0), 0);
        due("fewer than eight, the last isn't", stairs(paper(8, 1, 2)).read(0), 2);
        due("nothing is dark", paper(8, 0, 0, 0, 0, 0, 0, 0, 0).read(0), 0);
        says(40, "the lowest 8 bits of numbers of a sheet");
        due("of 16", stairs(paper(16, 0xFF01, 0x0103, 0x8007)).read(0), 0);
        due("of 64", stairs(paper(64, CELL_63 | 1, 0x103, -256 | 7)).read(0), 0);
        due("of 16, and they aren't", stairs(paper(16, 0x0100)).read(0), 1);
        says(40, "(8 at most are looked at)");
        due("a ninth", stairs(paper(8, 1, 3, 7, 15, 31, 63, 127, 255, 77)).read(0), 0);
        due("forty", withForty().read(0), 0);
        says(40, "BEYOND: no such sheet.");
        for (int s : NO_SHEETS) {
            refused(Edges::busy, "read(" + s + ")", BEYOND, y -> y.read(s));
        }
        says(40, "MISSING.");
        refused(Edges::busy, "read(3)", MISSING, y -> y.read(3));
    }

    private static LampShapes withForty() {
        LampShapes x = full();
        x.film(0);
        return x;
    }

    public static void main(String[] args) {
        newSheet();
        writeOne();
        copyMany();
        copyRefused();
        laysAll();
        filmAll();
        readAll();
        end();
    }
}
