/** Boundary cases of the tape and the text: THE TEXT in section 1 of the terms, promises 32 to 34. */
public final class TextEdgeTest extends Edges {
    private static final String[] KINDS = {"shape", "turned", "mirrored", "hollow", "double", "filled"};
    private static final String HELD = "shape #;hold 0 near 1 turn 0 at 0 0";

    /** On a new object. */
    private static void stands(String text, int items) {
        due("text of \"" + text + "\"", tell(empty(), text), items);
    }

    private static void faulty(String text, int place) {
        faultyOn(Edges::empty, text, place);
    }

    /** The text answers its fault, and a twin whose tape is wiped tells the same, status() too. */
    private static void faultyOn(Maker maker, String text, int place) {
        LampShapes x = maker.make();
        LampShapes twin = maker.make();
        x.wipe();
        twin.wipe();
        String call = "text of \"" + text + "\"";
        due(call, tell(x, text), -1 - place);
        due("bytes of THE TAPE behind " + call, x.count(5), 0);
        for (int which = -1; which < 7; which++) {
            due("status(" + which + ") behind " + call, x.status(which), twin.status(which));
        }
        same(call, x, twin);
    }

    private static LampShapes blanks(int n) {
        LampShapes x = empty();
        feedAll(x, " ".repeat(n));
        return x;
    }

    private static void feedBytes() {
        says(32, "THE TAPE gets the n lowest bytes of a number behind it, the highest of these first");
        // All four bytes are "drop"; those above the n lowest would be faults.
        LampShapes x = empty();
        due("one byte", x.feed(0xFFFFFF00 | 'd', 1), 1);
        due("two bytes", x.feed(0x80000000 | 'r' << 8 | 'o', 2), 3);
        due("one byte", x.feed('p', 1), 4);
        due("three bytes", x.feed(0xFF000000 | ';' << 16 | 'd' << 8 | 'r', 3), 7);
        due("four bytes", x.feed('o' << 24 | 'p' << 16 | ' ' << 8 | ' ', 4), 11);
        due("told", x.text(), 2);
        LampShapes high = empty();
        high.feed('d' << 24 | 'r' << 16 | 'o' << 8 | 'p', 4);
        due("a byte above 127", high.feed(-1, 1), 5);
        due("which begins no TOKEN", high.text(), -5);
        says(32, "(n 1 to 4) [..] BEYOND: n.");
        for (int n : new int[] {0, -1, 5, 8, MIN, MAX}) {
            refused(Edges::empty, "feed(32, " + n + ")", BEYOND, y -> y.feed(32, n));
            refused(Edges::busy, "feed(32, " + n + ")", BEYOND, y -> y.feed(32, n));
        }
        says(0, "THE TAPE (bytes, at most 120)");
        for (int n = 1; n <= 4; n++) {
            due("the last " + n, blanks(120 - n).feed(0x20202020, n), 120);
        }
        due("count(5)", full().count(5), 120);
        due("a text of 120 bytes", full().text(), 24);
        says(32, "FULL.");
        for (int n = 1; n <= 4; n++) {
            int many = n;
            refused(Edges::full, "feed(32, " + n + ") onto 120", FULL, y -> y.feed(32, many));
            refused(() -> blanks(121 - many), "one too many of " + n, FULL, y -> y.feed(0x3B3B3B3B, many));
        }
        says(32, "BEYOND: n [before] FULL");
        for (int n : new int[] {0, 5, MIN, MAX}) {
            refused(Edges::full, "feed(32, " + n + ") onto 120", BEYOND, y -> y.feed(32, n));
        }
    }

    private static void wipeAll() {
        says(33, "THE TAPE is empty: how many it had.");
        LampShapes x = full();
        due("120", x.wipe(), 120);
        due("none", x.wipe(), 0);
        due("no text is left", x.text(), -1);
        due("a new one stands", tell(x, "drop"), 1);
        due("none behind a text", x.wipe(), 0);
    }

    private static void tokens() {
        says(0, "TOKENS, each as long as can be");
        faulty("shapes #", 0);
        faulty("shap #", 0);
        faulty("dropdrop", 0);
        faulty("dropa", 0);
        faulty("dropz", 0);
        faulty("shape #;torn 00 0", 16);
        faulty("shape #;torn 10", 13);
        faulty("shape #;torn 09", 13);
        faulty("shape #;hold 0nearturn", 14);
        LampShapes x = empty();
        tell(x, "shape ##;shape # #");
        due("one row of two signs", x.of(0, 1), 0x0003);
        due("two rows of a sign", x.of(1, 1), 0x0011);
        says(0, "NUMBERS (digits, 9999 at most)");
        for (String number : new String[] {"1", "9999", "10000", "256", "65536", "4294967296", "18446744073709551616", "9".repeat(60)}) {
            faulty("shape #;torn " + number, 13);
            faulty("shape #;hold " + number + " near 1 turn 0 at 0 0", 13);
        }
        stands("shape #;torn 0", 2);
        stands("shape #;torn 0000000000000", 2);
        says(0, "SIGN ; ; blanks may stand between");
        stands("shape#;hold0near1turn0at0 0;torn0;drop", 4);
        stands("   shape   #   #  ;   hold  0  near  1  turn  0  at  0  0  ;   drop   ", 3);
        says(0, "a byte that begins no TOKEN");
        for (int b = 0; b < 256; b++) {
            if ("abcdefghijklmnopqrstuvwxyz0123456789#.; ".indexOf(b) < 0) {
                faulty((char) b + "drop", 0);
                faulty("drop" + (char) b, 4);
                faulty("shape #" + (char) b + "#", 7);
                faulty("shape #;torn " + (char) b, 13);
            }
        }
    }

    private static void items() {
        says(0, "TEXT: ITEM { ; ITEM }.");
        stands("drop", 1);
        stands("drop;drop", 2);
        stands("drop;".repeat(23) + "drop", 24);
        faulty(";", 0);
        faulty(";drop", 0);
        faulty("drop;;drop", 5);
        faulty("drop drop", 5);
        faulty("drop 0", 5);
        faulty("drop #", 5);
        faulty("0", 0);
        faulty("#", 0);
        says(0, "another WORD");
        for (String word : new String[] {"a", "near", "turn", "at", "kind", "drops", "hol", "scenes", "tear", "z".repeat(40)}) {
            faulty(word, 0);
            faulty("drop; " + word + " 0", 6);
        }
        for (String word : new String[] {"shape #", "turned #", "mirrored #", "hollow #", "double #", "filled #", "scene #", "drop"}) {
            stands(word, 1);
            for (int i = 0; i < word.length() && word.charAt(i) != ' '; i++) {
                faulty(word.substring(0, i) + "x" + word.substring(i + 1), 0);
            }
        }
        faulty("shape #;hold 0 far 1", 15);
        faulty("shape #;hold 0 turn 1", 15);
        faulty("shape #;hold 0 near 1 near", 22);
        faulty("shape #;hold 0 near 1 turn 0 on", 29);
        faulty("shape #;hold near", 13);
        faulty("shape #;hold 0 near near", 20);
        faulty("shape #;hold 0 near 1 turn 0 at at", 32);
        faulty("shape #;torn drop", 13);
        says(0, "or how many bytes there are if it ends too early");
        faulty("", 0);
        faulty(" ", 1);
        faulty(" ".repeat(120), 120);
        faulty("drop;", 5);
        faulty("drop;  ", 7);
        faulty("drop;".repeat(24), 120);
        faulty("torn", 4);
        faulty("scene", 5);
        faulty("scene ", 6);
        for (int end : new int[] {8, 12, 14, 19, 21, 26, 28, 31, 33}) {
            faulty(HELD.substring(0, end), end);
            faulty(HELD.substring(0, end) + "  ", end + 2);
        }
        stands(HELD, 2);
        says(34, "how many ITEMS");
        stands("shape #;turned #;scene #;hold 1 near 2 turn 3 at 7 7;torn 0;drop", 6);
    }

    private static void shapeItems() {
        says(0, "the name of a KIND [..], one to four ROWS");
        for (int kind = 0; kind < 6; kind++) {
            String name = KINDS[kind];
            int behind = name.length() + 1;
            LampShapes x = empty();
            due(name + ", one row", tell(x, name + " #"), 1);
            due("its KIND", x.of(0, 0), kind);
            due("its POINTS", x.of(0, 1), 1);
            due("it is whole", x.of(0, 2), 0);
            due("it isn't held", x.of(0, 3), -1);
            stands(name + " # # # #", 1);
            faulty(name + " # # # # #", behind + 8);
            faulty(name, behind - 1);
            faulty(name + " ;drop", behind);
            faulty(name + " 1", behind);
            faulty(name + " drop", behind);
        }
        says(0, "(of one to 4 signs each: # a POINT; those that lack are none)");
        LampShapes x = empty();
        due("rows of all lengths", tell(x, "shape # .# ..# ...#"), 1);
        due("its POINTS", x.of(0, 1), 0x8421);
        due("all points", tell(x, "shape #### #### #### ####"), 1);
        due("its POINTS", x.of(1, 1), 65535);
        due("no points", tell(x, "shape ."), 1);
        due("its POINTS", x.of(2, 1), 0);
        due("rows that lack", tell(x, "shape .... ##"), 1);
        due("its POINTS", x.of(3, 1), 0x0030);
        faulty("shape #####", 6);
        faulty("shape .....", 6);
        faulty("shape # #####", 8);
        faulty("shape # # # .....", 12);
        faulty("shape " + "#".repeat(68), 6);
        says(0, "the name of a KIND for a 10th SHAPE");
        LampShapes eight = empty();
        for (int s = 0; s < 8; s++) {
            eight.shape(0, 0);
        }
        due("a 9th", tell(eight, "filled ...#"), 1);
        due("its POINTS", eight.of(8, 1), 8);
        for (String name : KINDS) {
            faultyOn(Edges::full, name + " #", 0);
            faultyOn(Edges::full, "drop;" + name + " #####", 5);
            faultyOn(Edges::full, "drop; " + name, 6);
        }
        faulty("shape#;".repeat(9) + "shape#", 63);
        stands("shape#;".repeat(8) + "shape#", 9);
    }

    private static void sceneItems() {
        says(0, "scene, one to eight ROWS");
        LampShapes x = empty();
        due("one row", tell(x, "scene #"), 1);
        due("its PICTURE", x.picture(0), 1);
        due("eight rows", tell(x, "scene # # # # # # # #"), 1);
        due("its PICTURE", x.picture(1), 0x0101010101010101L);
        faulty("scene # # # # # # # # #", 22);
        faulty("scene ;drop", 6);
        faulty("scene 1", 6);
        faulty("scene drop", 6);
        says(0, "(of one to 8 signs each)");
        due("the last cell", tell(x, "scene . . . . . . . .......#"), 1);
        due("its PICTURE", x.picture(2), CELL_63);
        due("all cells", tell(x, "scene" + " ########".repeat(8)), 1);
        due("its PICTURE", x.picture(3), -1);
        due("no cells", tell(x, "scene ."), 1);
        due("its PICTURE", x.picture(4), 0);
        due("rows that lack", tell(x, "scene ........ .#"), 1);
        due("its PICTURE", x.picture(5), 0x0200);
        faulty("scene #########", 6);
        faulty("scene # .........", 8);
        faulty("scene # # # # # # # #########", 20);
        says(0, "scene for an 8th");
        due("a 7th", tell(x, "scene ##"), 1);
        due("its PICTURE", x.picture(6), 3);
        faultyOn(Edges::full, "scene #", 0);
        faultyOn(Edges::full, "drop; scene", 6);
        faultyOn(Edges::full, "scene #########", 0);
        faulty("scene#;".repeat(7) + "scene#", 49);
        stands("scene#;".repeat(6) + "scene#", 7);
    }

    private static void holdItems() {
        says(0, "hold, a NUMBER (a SHAPE there by then that isn't held");
        faulty("hold 0 near 1 turn 0 at 0 0", 5);
        faulty("shape #;hold 1 near 1 turn 0 at 0 0", 13);
        stands("shape #;hold 0 near 1 turn 0 at 0 0;drop;hold 0 near 1 turn 0 at 0 0", 4);
        faulty("hold 0 near 1 turn 0 at 0 0;shape #", 5);
        faulty(HELD + ";hold 0 near 1 turn 0 at 0 0", 41);
        faultyOn(Edges::busy, "hold 0 near 1 turn 0 at 0 0", 5);
        faultyOn(Edges::busy, "hold 6 near 1 turn 0 at 0 0", 5);
        LampShapes x = busy();
        x.wipe();
        due("one TORN", tell(x, "hold 5 near 1 turn 0 at 0 0"), 1);
        due("in the last HOLD", x.held(3, 0), 5);
        says(0, "as long as a HOLD is free) [..] hold without a free one: its own");
        faultyOn(Edges::full, "hold 8 near 1 turn 0 at 0 0", 0);
        faultyOn(Edges::full, "torn 8;  hold", 9);
        faultyOn(Edges::full, "hold 0", 0);
        faultyOn(Edges::full, "hold !", 0);
        LampShapes y = full();
        y.wipe();
        due("behind a drop", tell(y, "drop;hold 8 near 1 turn 0 at 0 0"), 2);
        says(0, "near, a NUMBER (1, 2), turn, a NUMBER (0 to 3), at, a NUMBER (ROW), a NUMBER (COLUMN)");
        for (int near = 0; near <= 3; near++) {
            String text = "shape #;hold 0 near " + near + " turn 0 at 0 0";
            if (near == 0 || near == 3) {
                faulty(text, 20);
            } else {
                holds(text, placing(near, 0, 0, 0));
            }
        }
        for (int turn = 0; turn <= 4; turn++) {
            String text = "shape #;hold 0 near 1 turn " + turn + " at 0 0";
            if (turn == 4) {
                faulty(text, 27);
            } else {
                holds(text, placing(1, turn, 0, 0));
            }
        }
        holds("shape #;hold 0 near 2 turn 3 at 7 7", 11077);
        holds("shape #;hold 0 near 02 turn 003 at 0007 00007", 11077);
        faulty("shape #;hold 0 near 2 turn 3 at 8 0", 32);
        faulty("shape #;hold 0 near 2 turn 3 at 0 8", 34);
        faulty("shape #;hold 0 near 2 turn 3 at 77", 32);
        faulty("shape #;hold 0 near 2 turn 3 at 7 7 7", 36);
        for (String number : new String[] {"10", "256", "9999", "10000", "4294967297", "18446744073709551617"}) {
            faulty("shape #;hold 0 near " + number + " turn 0 at 0 0", 20);
            faulty("shape #;hold 0 near 1 turn " + number + " at 0 0", 27);
            faulty("shape #;hold 0 near 1 turn 0 at " + number + " 0", 32);
            faulty("shape #;hold 0 near 1 turn 0 at 0 " + number, 34);
        }
        for (String other : new String[] {";drop", "#", "drop", "!"}) {
            for (int end : new int[] {13, 20, 27, 32, 34}) {
                faulty(HELD.substring(0, end) + other, end);
            }
        }
        faulty("shape #;hold 0 1 turn 0 at 0 0", 15);
        faulty("shape #;hold 0 turn 0 at 0 0", 15);
        faulty("shape #;hold 0 near turn 0 at 0 0", 20);
        faulty("shape #;hold 0 near 1 0 at 0 0", 22);
        faulty("shape #;hold 0 near 1 at 0 0", 22);
        faulty("shape #;hold 0 near 1 turn at 0 0", 27);
        faulty("shape #;hold 0 near 1 turn 0 0 0", 29);
        faulty("shape #;hold 0 near 1 turn 0 0", 29);
        says(0, "it is held in the first HOLD that is free");
        LampShapes z = full();
        z.wipe();
        z.drop(2);
        z.drop(1);
        due("two more", tell(z, "hold 8 near 1 turn 0 at 0 0;hold 7 near 1 turn 0 at 0 1"), 2);
        due("the first free one", z.held(1, 0), 8);
        due("then the next", z.held(2, 1), 4001);
    }

    private static void holds(String text, int placing) {
        LampShapes x = empty();
        due("text of \"" + text + "\"", tell(x, text), 2);
        due("the PLACING of \"" + text + "\"", x.held(0, 1), placing);
    }

    private static void dropAndTornItems() {
        says(0, "drop: all HOLDS are of nothing");
        LampShapes x = full();
        due("four held", x.text(), 24);
        due("none held", x.count(3), 0);
        due("none was held", tell(x, "drop"), 1);
        says(0, "torn and a NUMBER (a SHAPE there by then)");
        due("the ninth", tell(x, "torn 8"), 1);
        due("it is TORN", x.of(8, 2), 1);
        due("it alone", x.count(1), 1);
        faulty("torn 0", 5);
        faulty("torn 0;shape #", 5);
        faulty("shape #;torn 1", 13);
        faulty("shape #;torn #", 13);
        faulty("shape #;torn ;drop", 13);
        faultyOn(Edges::full, "torn 9", 5);
        faultyOn(Edges::busy, "torn 6", 5);
    }

    private static void faults() {
        says(34, "With a FAULT: -1 less its place");
        due("at the first byte", tell(empty(), "!"), -1);
        due("at the last byte", tell(empty(), " ".repeat(119) + "!"), -120);
        due("behind the last byte", tell(empty(), " ".repeat(120)), -121);
        says(34, "(nothing changes but that THE TAPE is empty; no finding)");
        faultyOn(Edges::busy, "shape #;scene #;torn 0;drop;hold 0 near 1 turn 0 at 0 0;!", 56);
        faultyOn(Edges::busy, "drop;torn 1;torn 6", 17);
        faultyOn(Edges::busy, "scene #;hold 1 near 1 turn 0 at 0 8", 34);
        faultyOn(Edges::busy, "", 0);
        says(0, "the first TOKEN that can't stand there");
        faulty("shape # ! #####", 8);
        faulty("shape ##### !", 6);
        faulty("other !", 0);
        faulty("shape #;torn 9 9999999999", 13);
        says(34, "and empty then");
        LampShapes x = empty();
        due("it stands", tell(x, "shape #"), 1);
        due("nothing is left", x.count(5), 0);
        due("nothing to tell", x.text(), -1);
        due("one SHAPE came", x.count(0), 1);
    }

    public static void main(String[] args) {
        feedBytes();
        wipeAll();
        tokens();
        items();
        shapeItems();
        sceneItems();
        holdItems();
        dropAndTornItems();
        faults();
        end();
    }
}
