/** A shadow theatre: cut shapes, one lamp, two hands, a sheet of 64 cells, and a play told in a text. */
public final class LampShapes {
    private static final int BEYOND = -1000000001;
    private static final int FULL = -1000000002;
    private static final int KIND = -1000000003;
    private static final int NONE = -1000000004;
    private static final int STATE = -1000000005;
    private static final int MISSING = -1000000006;
    private static final int SIZE = -1000000007;
    private static final int FINDINGS = 7;

    private static final int MOST_SHAPES = 9;
    private static final int MOST_SCENES = 7;
    private static final int MOST_IN_ORDER = 6;
    private static final int HOLDS = 4;
    private static final int KINDS = 6;
    private static final int TURNS = 4;
    private static final int CELLS = 64;
    private static final int ROWS = 8;
    private static final int ALL_POINTS = 65535;
    private static final int ALL_ALLOWED = 63;
    private static final int MOST_BYTES = 120;
    private static final int PAPERS = 4;
    private static final int MOST_NUMBERS = 40;

    /** A placing's thousands are 4 times NEAR and TURN: these are the least and the greatest of them. */
    private static final int FIRST_WAY = 4;
    private static final int LAST_WAY = 11;

    private final Stage now = new Stage();
    private final Stage kept = new Stage();
    private final Search search = new Search();
    private final Route route = new Route();
    private final Script script = new Script();
    private final Paper[] papers = new Paper[PAPERS];
    private final int[] told = new int[FINDINGS];
    private boolean isKept = false;

    public LampShapes() {
        for (int s = 0; s < PAPERS; s++) {
            papers[s] = new Paper();
        }
    }

    // ---- shapes

    public int shape(int kind, int points) {
        if (!isKind(kind) || !isPoints(points)) {
            return finding(BEYOND);
        }
        if (!now.hasRoomForShape()) {
            return finding(FULL);
        }
        return now.addShape(kind, points);
    }

    public int of(int shape, int what) {
        if (!now.hasShape(shape)) {
            return finding(BEYOND);
        }
        switch (what) {
            case 0:
                return now.kinds[shape];
            case 1:
                return now.points[shape];
            case 2:
                return now.isTorn(shape) ? 1 : 0;
            case 3:
                return now.holdOf(shape);
            default:
                return finding(BEYOND);
        }
    }

    public int cut(int shape, int v) {
        if (!now.hasShape(shape) || !isPoints(v)) {
            return finding(BEYOND);
        }
        int before = now.points[shape];
        now.points[shape] = v;
        return before;
    }

    public int tear(int shape, boolean is) {
        if (!now.hasShape(shape)) {
            return finding(BEYOND);
        }
        if (now.isTorn(shape) == is) {
            return 0;
        }
        now.setTorn(shape, is);
        return 1;
    }

    public int become(int shape, int kind) {
        if (!now.hasShape(shape) || !isKind(kind)) {
            return finding(BEYOND);
        }
        int before = now.kinds[shape];
        now.kinds[shape] = kind;
        return before;
    }

    public int as(int shape, int kind) {
        if (!now.hasShape(shape) || !isKind(kind)) {
            return finding(BEYOND);
        }
        if (!Kinds.isUnder(now.kinds[shape], kind)) {
            return finding(KIND);
        }
        return now.points[shape];
    }

    public int thrown(int shape, int turn) {
        if (!now.hasShape(shape) || turn < 0 || turn >= TURNS) {
            return finding(BEYOND);
        }
        return Kinds.pointsBy(now.kinds[shape], now.points[shape], turn);
    }

    public long shadow(int shape, int placing) {
        if (!now.hasShape(shape) || !Lamp.isPlacing(placing)) {
            return finding(BEYOND);
        }
        return now.cellsBy(shape, placing);
    }

    // ---- hands

    public int hold(int shape, int placing) {
        if (!now.hasShape(shape) || !Lamp.isPlacing(placing)) {
            return finding(BEYOND);
        }
        if (now.holdOf(shape) >= 0) {
            return finding(STATE);
        }
        int free = now.freeHold();
        if (free < 0) {
            return finding(FULL);
        }
        now.take(free, shape, placing);
        return free;
    }

    public int move(int shape, int placing) {
        if (!now.hasShape(shape) || !Lamp.isPlacing(placing)) {
            return finding(BEYOND);
        }
        int hold = now.holdOf(shape);
        if (hold < 0) {
            return finding(STATE);
        }
        int before = now.heldPlacings[hold];
        now.heldPlacings[hold] = placing;
        return before;
    }

    public int drop(int shape) {
        if (!now.hasShape(shape)) {
            return finding(BEYOND);
        }
        int hold = now.holdOf(shape);
        if (hold < 0) {
            return finding(STATE);
        }
        now.release(hold);
        return hold;
    }

    public int held(int hold, int what) {
        if (hold < 0 || hold >= HOLDS || what < 0 || what > 1) {
            return finding(BEYOND);
        }
        return what == 0 ? now.heldShapes[hold] : now.heldPlacings[hold];
    }

    public long dark() {
        return now.darkCells();
    }

    public long single() {
        return now.singleCells();
    }

    public int spare() {
        long alone = now.singleCells();
        for (int shape = 0; shape < now.shapes; shape++) {
            int hold = now.holdOf(shape);
            if (hold >= 0 && !now.isTorn(shape) && (now.cellsOfHold(hold) & alone) == 0) {
                return shape;
            }
        }
        return finding(NONE);
    }

    // ---- scenes

    public int scene(long picture) {
        if (!now.hasRoomForScene()) {
            return finding(FULL);
        }
        return now.addScene(picture);
    }

    public int draw(int scene) {
        if (!now.hasScene(scene)) {
            return finding(BEYOND);
        }
        long before = now.pictures[scene];
        now.pictures[scene] = now.darkCells();
        return Lamp.cellsOff(before, now.pictures[scene]);
    }

    public long picture(int scene) {
        if (!now.hasScene(scene)) {
            return finding(BEYOND);
        }
        return now.pictures[scene];
    }

    public int off(int scene) {
        if (!now.hasScene(scene)) {
            return finding(BEYOND);
        }
        return Lamp.cellsOff(now.darkCells(), now.pictures[scene]);
    }

    public int changes(int from, int to) {
        if (!now.hasScene(from) || !now.hasScene(to)) {
            return finding(BEYOND);
        }
        return now.changesBetween(from, to);
    }

    public int allow(int set) {
        if (set < 0 || set > ALL_ALLOWED || (set & 15) == 0 || (set >> 4) == 0) {
            return finding(BEYOND);
        }
        int before = now.allowed;
        now.allowed = set;
        return before;
    }

    public int nearest(int shape, int scene, int what) {
        if (!now.hasShape(shape) || !now.hasScene(scene) || what < 0 || what > 1) {
            return finding(BEYOND);
        }
        search.seek(now, shape, 0L, now.pictures[scene]);
        return what == 0 ? search.placing : search.least;
    }

    public int best(int scene) {
        if (!now.hasScene(scene)) {
            return finding(BEYOND);
        }
        int nearestOnes = search.nearestOnes(now, scene);
        if (nearestOnes == 0) {
            return finding(NONE);
        }
        return Integer.numberOfTrailingZeros(nearestOnes);
    }

    public int play(int scene) {
        if (!now.hasScene(scene)) {
            return finding(BEYOND);
        }
        now.emptyHands();
        long wanted = now.pictures[scene];
        for (int hold = 0; hold < HOLDS; hold++) {
            if (!search.addOne(now, hold, now.darkCells(), wanted)) {
                break;
            }
        }
        return Lamp.cellsOff(now.darkCells(), wanted);
    }

    public int fits(int shape, int scene) {
        if (!now.hasShape(shape) || !now.hasScene(scene)) {
            return finding(BEYOND);
        }
        return search.placingsWithin(now, shape, now.pictures[scene]);
    }

    public int taken(int scene, int n) {
        if (!now.hasScene(scene) || n < 0 || n > CELLS) {
            return finding(BEYOND);
        }
        int set = 0;
        for (int other = 0; other < now.scenes; other++) {
            if (other != scene && now.offBetween(scene, other) <= n) {
                set |= 1 << other;
            }
        }
        return set;
    }

    public int seen() {
        long cells = now.darkCells();
        int likely = -1;
        int least = CELLS + 1;
        for (int scene = 0; scene < now.scenes; scene++) {
            int off = Lamp.cellsOff(cells, now.pictures[scene]);
            if (off < least) {
                least = off;
                likely = scene;
            }
        }
        return likely < 0 ? finding(NONE) : likely;
    }

    public int order(int what) {
        if (what < -1) {
            return finding(BEYOND);
        }
        if (now.scenes > MOST_IN_ORDER) {
            return finding(SIZE);
        }
        if (what >= now.scenes) {
            return finding(NONE);
        }
        route.plan(now);
        return what < 0 ? route.cost : route.steps[what];
    }

    public int closest() {
        int least = CELLS + 1;
        for (int one = 0; one < now.scenes; one++) {
            for (int other = one + 1; other < now.scenes; other++) {
                least = Math.min(least, now.offBetween(one, other));
            }
        }
        return least > CELLS ? finding(NONE) : least;
    }

    public int harmless() {
        int whole = now.wholeShapes();
        if (now.scenes == 0 || whole == 0) {
            return finding(NONE);
        }
        int harmful = 0;
        for (int scene = 0; scene < now.scenes; scene++) {
            int nearestOnes = search.nearestOnes(now, scene);
            // Only a shape that is the sole nearest one leaves its scene worse off.
            if (Integer.bitCount(nearestOnes) == 1) {
                harmful |= nearestOnes;
            }
        }
        return whole & ~harmful;
    }

    // ---- the text

    public int feed(int bytes, int n) {
        if (n < 1 || n > 4) {
            return finding(BEYOND);
        }
        if (!script.tape.hasRoomFor(n)) {
            return finding(FULL);
        }
        for (int left = n - 1; left >= 0; left--) {
            script.tape.add(bytes >> (8 * left));
        }
        return script.tape.size;
    }

    public int wipe() {
        int before = script.tape.size;
        script.tape.size = 0;
        return before;
    }

    public int text() {
        script.stage.takeAll(now);
        int items = script.perform();
        if (items > 0) {
            now.takeAll(script.stage);
        }
        script.tape.size = 0;
        return items;
    }

    // ---- sheets

    public int sheet(int s, int bits, int n) {
        Paper paper = paperAt(s);
        if (paper == null || !isWidth(bits)) {
            return finding(BEYOND);
        }
        if (n < 0) {
            return finding(SIZE);
        }
        if (n > MOST_NUMBERS) {
            return finding(BEYOND);
        }
        paper.renew(bits, bits == 0 ? 0 : n);
        return paper.size;
    }

    public long write(int s, int i, long v) {
        Paper paper = paperAt(s);
        if (paper == null) {
            return finding(BEYOND);
        }
        if (paper.isMissing()) {
            return finding(MISSING);
        }
        if (i < 0 || i >= paper.size) {
            return finding(BEYOND);
        }
        long before = paper.numbers[i];
        paper.put(i, v);
        return before;
    }

    public int copy(int s, int from, int t, int to, int n) {
        Paper source = paperAt(s);
        Paper target = paperAt(t);
        if (source == null || target == null) {
            return finding(BEYOND);
        }
        if (source.isMissing() || target.isMissing()) {
            return finding(MISSING);
        }
        if (source.bits != target.bits) {
            return finding(KIND);
        }
        if (!source.hasPart(from, n) || !target.hasPart(to, n)) {
            return finding(BEYOND);
        }
        System.arraycopy(source.numbers, from, target.numbers, to, n);
        return n;
    }

    public int lays(int s) {
        Paper paper = paperAt(s);
        if (paper == null) {
            return finding(BEYOND);
        }
        if (paper.isMissing()) {
            return finding(MISSING);
        }
        int came = Math.min(paper.size, now.scenes);
        for (int i = 0; i < came; i++) {
            now.pictures[i] = paper.numbers[i];
        }
        return came;
    }

    public int film(int s) {
        Paper paper = paperAt(s);
        if (paper == null) {
            return finding(BEYOND);
        }
        if (paper.isMissing()) {
            return finding(MISSING);
        }
        long cells = now.darkCells();
        int came = Math.min(paper.size, ROWS);
        for (int row = 0; row < came; row++) {
            paper.put(row, Lamp.rowOf(cells, row));
        }
        return came;
    }

    public int read(int s) {
        Paper paper = paperAt(s);
        if (paper == null) {
            return finding(BEYOND);
        }
        if (paper.isMissing()) {
            return finding(MISSING);
        }
        long cells = now.darkCells();
        int looked = Math.min(paper.size, ROWS);
        for (int row = 0; row < looked; row++) {
            if ((paper.numbers[row] & 255L) != Lamp.rowOf(cells, row)) {
                return 1 + row;
            }
        }
        return 0;
    }

    // ---- images

    public int image() {
        kept.takeAll(now);
        isKept = true;
        return 1;
    }

    public int undo() {
        if (!isKept) {
            return finding(NONE);
        }
        now.takeAll(kept);
        return now.shapes;
    }

    public int forget() {
        int before = isKept ? 1 : 0;
        isKept = false;
        return before;
    }

    public int count(int what) {
        switch (what) {
            case 0:
                return now.shapes;
            case 1:
                return Integer.bitCount(now.tornShapes);
            case 2:
                return now.scenes;
            case 3:
                return now.holdsInUse();
            case 4:
                return Long.bitCount(now.darkCells());
            case 5:
                return script.tape.size;
            case 6:
                return now.allowed;
            default:
                return finding(BEYOND);
        }
    }

    public int status(int which) {
        if (which < -1 || which >= FINDINGS) {
            return finding(BEYOND);
        }
        if (which >= 0) {
            return told[which];
        }
        int all = 0;
        for (int i = 0; i < FINDINGS; i++) {
            all += told[i];
        }
        return all;
    }

    // ---- what the calls share

    /** Counts a finding for status() and hands it on, so that no finding is answered uncounted. */
    private int finding(int which) {
        int place = BEYOND - which;
        if (place >= 0 && place < FINDINGS) {
            told[place]++;
        }
        return which;
    }

    private Paper paperAt(int s) {
        return s < 0 || s >= PAPERS ? null : papers[s];
    }

    private static boolean isKind(int kind) {
        return kind >= 0 && kind < KINDS;
    }

    private static boolean isPoints(int points) {
        return points >= 0 && points <= ALL_POINTS;
    }

    private static boolean isWidth(int bits) {
        return bits == 0 || bits == 8 || bits == 16 || bits == 64;
    }

    /** The kinds of shapes: which is under which, and how each throws its 4 by 4 points. */
    private static final class Kinds {
        static final int SHAPE = 0;
        static final int TURNED = 1;
        static final int MIRRORED = 2;
        static final int HOLLOW = 3;
        static final int DOUBLE = 4;
        static final int FILLED = 5;

        static boolean isUnder(int kind, int upper) {
            int at = kind;
            for (int i = 0; i < KINDS; i++) {
                if (at == upper) {
                    return true;
                }
                at = nextAbove(at);
            }
            return false;
        }

        private static int nextAbove(int kind) {
            switch (kind) {
                case HOLLOW:
                case FILLED:
                    return TURNED;
                case DOUBLE:
                    return MIRRORED;
                default:
                    return SHAPE;
            }
        }

        static int pointsBy(int kind, int points, int turn) {
            switch (kind) {
                case TURNED:
                    return turnedBy(points, turn);
                case MIRRORED:
                    return mirroredBy(points, turn);
                case HOLLOW:
                    return hollowed(turnedBy(points, turn));
                case DOUBLE:
                    return doubled(mirroredBy(points, turn));
                case FILLED:
                    return filled(turnedBy(points, turn));
                default:
                    return points;
            }
        }

        private static int turnedBy(int points, int turn) {
            int set = points;
            for (int i = 0; i < turn; i++) {
                int next = 0;
                for (int place = 0; place < 16; place++) {
                    if ((set >> place & 1) == 1) {
                        next |= 1 << (4 * (place % 4) + 3 - place / 4);
                    }
                }
                set = next;
            }
            return set;
        }

        private static int mirroredBy(int points, int turn) {
            if ((turn & 1) == 0) {
                return points;
            }
            return (points & 0x1111) << 3 | (points & 0x2222) << 1
                    | (points & 0x4444) >> 1 | (points & 0x8888) >> 3;
        }

        private static int hollowed(int points) {
            // The masks keep a row's last column from being beside the next row's first.
            int left = points << 1 & 0xEEEE;
            int right = points >> 1 & 0x7777;
            int above = points << 4;
            int below = points >> 4;
            return points & ~(left & right & above & below);
        }

        private static int doubled(int points) {
            return (points | points << 4) & ALL_POINTS;
        }

        private static int filled(int points) {
            int set = points;
            for (int place = 0; place < 16; place += 4) {
                int row = points >> place & 15;
                int behind = row << 1 | row << 2 | row << 3;
                int ahead = row >> 1 | row >> 2 | row >> 3;
                set |= (behind & ahead & 15) << place;
            }
            return set;
        }
    }

    /** How thrown points fall on the sheet of 8 by 8 cells, and how such pictures differ. */
    private static final class Lamp {
        private static final long FIRST_COLUMN = 0x0101010101010101L;

        static boolean isPlacing(int number) {
            int way = number / 1000;
            int place = number % 1000;
            return way >= FIRST_WAY && way <= LAST_WAY && place / 10 < ROWS && place % 10 < ROWS;
        }

        static int placingAt(int way, int row, int column) {
            return 1000 * way + 10 * row + column;
        }

        /** The cells that points make dark at row 0, column 0. */
        static long cellsAtCorner(int points, int near) {
            long cells = 0L;
            long spot = near == 1 ? 1L : 0x0303L;
            for (int row = 0; row < 4; row++) {
                for (int column = 0; column < 4; column++) {
                    if ((points >> (4 * row + column) & 1) == 1) {
                        cells |= spot << (near * (8 * row + column));
                    }
                }
            }
            return cells;
        }

        /** Cells at the corner, moved to a row and a column; the shift itself loses what is below the sheet. */
        static long moved(long corner, int row, int column) {
            long columnsThatStay = FIRST_COLUMN * (255 >> column);
            return (corner & columnsThatStay) << (8 * row + column);
        }

        static int cellsOff(long one, long other) {
            return Long.bitCount(one ^ other);
        }

        static int rowOf(long cells, int row) {
            return (int) (cells >>> (8 * row) & 255L);
        }
    }

    /** All that is kept by image(): shapes, hands, scenes, and what is allowed. */
    private static final class Stage {
        private int shapes = 0;
        private final int[] kinds = new int[MOST_SHAPES];
        private final int[] points = new int[MOST_SHAPES];
        private int tornShapes = 0;
        private final int[] heldShapes = new int[HOLDS];
        private final int[] heldPlacings = new int[HOLDS];
        private int scenes = 0;
        private final long[] pictures = new long[MOST_SCENES];
        private int allowed = ALL_ALLOWED;

        Stage() {
            for (int hold = 0; hold < HOLDS; hold++) {
                heldShapes[hold] = -1;
                heldPlacings[hold] = -1;
            }
        }

        void takeAll(Stage other) {
            shapes = other.shapes;
            System.arraycopy(other.kinds, 0, kinds, 0, MOST_SHAPES);
            System.arraycopy(other.points, 0, points, 0, MOST_SHAPES);
            tornShapes = other.tornShapes;
            System.arraycopy(other.heldShapes, 0, heldShapes, 0, HOLDS);
            System.arraycopy(other.heldPlacings, 0, heldPlacings, 0, HOLDS);
            scenes = other.scenes;
            System.arraycopy(other.pictures, 0, pictures, 0, MOST_SCENES);
            allowed = other.allowed;
        }

        boolean hasShape(int shape) {
            return shape >= 0 && shape < shapes;
        }

        boolean hasRoomForShape() {
            return shapes < MOST_SHAPES;
        }

        /** Only behind hasRoomForShape(). */
        int addShape(int kind, int itsPoints) {
            kinds[shapes] = kind;
            points[shapes] = itsPoints;
            shapes++;
            return shapes - 1;
        }

        boolean isTorn(int shape) {
            return (tornShapes >> shape & 1) == 1;
        }

        void setTorn(int shape, boolean is) {
            tornShapes = is ? tornShapes | 1 << shape : tornShapes & ~(1 << shape);
        }

        int wholeShapes() {
            return (1 << shapes) - 1 & ~tornShapes;
        }

        /** The cells that a shape makes dark at row 0, column 0, by a way: 4 times NEAR and TURN. */
        long cornerBy(int shape, int way) {
            int thrownPoints = Kinds.pointsBy(kinds[shape], points[shape], way % TURNS);
            return Lamp.cellsAtCorner(thrownPoints, way / TURNS);
        }

        long cellsBy(int shape, int placing) {
            int place = placing % 1000;
            return Lamp.moved(cornerBy(shape, placing / 1000), place / 10, place % 10);
        }

        boolean isAllowed(int way) {
            int turn = way % TURNS;
            int near = way / TURNS;
            return (allowed >> turn & 1) == 1 && (allowed >> (3 + near) & 1) == 1;
        }

        int holdOf(int shape) {
            for (int hold = 0; hold < HOLDS; hold++) {
                if (heldShapes[hold] == shape) {
                    return hold;
                }
            }
            return -1;
        }

        int freeHold() {
            return holdOf(-1);
        }

        void take(int hold, int shape, int placing) {
            heldShapes[hold] = shape;
            heldPlacings[hold] = placing;
        }

        void release(int hold) {
            take(hold, -1, -1);
        }

        void emptyHands() {
            for (int hold = 0; hold < HOLDS; hold++) {
                release(hold);
            }
        }

        int holdsInUse() {
            int used = 0;
            for (int hold = 0; hold < HOLDS; hold++) {
                if (heldShapes[hold] >= 0) {
                    used++;
                }
            }
            return used;
        }

        /** The cells that what is in a hold makes dark: none for nothing or a torn shape. */
        long cellsOfHold(int hold) {
            int shape = heldShapes[hold];
            if (!hasShape(shape) || isTorn(shape)) {
                return 0L;
            }
            return cellsBy(shape, heldPlacings[hold]);
        }

        long darkCells() {
            long cells = 0L;
            for (int hold = 0; hold < HOLDS; hold++) {
                cells |= cellsOfHold(hold);
            }
            return cells;
        }

        long singleCells() {
            long once = 0L;
            long more = 0L;
            for (int hold = 0; hold < HOLDS; hold++) {
                long cells = cellsOfHold(hold);
                more |= once & cells;
                once |= cells;
            }
            return once & ~more;
        }

        boolean hasScene(int scene) {
            return scene >= 0 && scene < scenes;
        }

        boolean hasRoomForScene() {
            return scenes < MOST_SCENES;
        }

        /** Only behind hasRoomForScene(). */
        int addScene(long itsPicture) {
            pictures[scenes] = itsPicture;
            scenes++;
            return scenes - 1;
        }

        int offBetween(int one, int other) {
            return Lamp.cellsOff(pictures[one], pictures[other]);
        }

        int changesBetween(int from, int to) {
            return (offBetween(from, to) + 3) / 4;
        }
    }

    /** Looks through the placings that are allowed; of those found alike the least number stays. */
    private static final class Search {
        private int placing = -1;
        private int least = CELLS + 1;

        /** Sets placing and least: where a shape, with the cells that are dark already, is least off. */
        void seek(Stage stage, int shape, long already, long wanted) {
            placing = -1;
            least = CELLS + 1;
            for (int way = FIRST_WAY; way <= LAST_WAY; way++) {
                if (stage.isAllowed(way)) {
                    seekByWay(stage.cornerBy(shape, way), way, already, wanted);
                }
            }
        }

        private void seekByWay(long corner, int way, long already, long wanted) {
            for (int row = 0; row < ROWS; row++) {
                for (int column = 0; column < ROWS; column++) {
                    int off = Lamp.cellsOff(already | Lamp.moved(corner, row, column), wanted);
                    if (off < least) {
                        least = off;
                        placing = Lamp.placingAt(way, row, column);
                    }
                }
            }
        }

        /** The whole shapes that alone come as near to a scene as any, as a set. */
        int nearestOnes(Stage stage, int scene) {
            int set = 0;
            int leastOfAll = CELLS + 1;
            for (int shape = 0; shape < stage.shapes; shape++) {
                if (stage.isTorn(shape)) {
                    continue;
                }
                seek(stage, shape, 0L, stage.pictures[scene]);
                if (least < leastOfAll) {
                    leastOfAll = least;
                    set = 0;
                }
                if (least == leastOfAll) {
                    set |= 1 << shape;
                }
            }
            return set;
        }

        /** Takes into a free hold what brings the hands nearest to what is wanted: false if nothing brings them nearer. */
        boolean addOne(Stage stage, int hold, long already, long wanted) {
            int leastOfAll = Lamp.cellsOff(already, wanted);
            int found = -1;
            int foundPlacing = -1;
            for (int shape = 0; shape < stage.shapes; shape++) {
                if (stage.isTorn(shape) || stage.holdOf(shape) >= 0) {
                    continue;
                }
                seek(stage, shape, already, wanted);
                if (least < leastOfAll) {
                    leastOfAll = least;
                    found = shape;
                    foundPlacing = placing;
                }
            }
            if (found < 0) {
                return false;
            }
            stage.take(hold, found, foundPlacing);
            return true;
        }

        int placingsWithin(Stage stage, int shape, long wanted) {
            int found = 0;
            for (int way = FIRST_WAY; way <= LAST_WAY; way++) {
                if (stage.isAllowed(way)) {
                    found += placesWithin(stage.cornerBy(shape, way), wanted);
                }
            }
            return found;
        }

        private static int placesWithin(long corner, long wanted) {
            int found = 0;
            for (int row = 0; row < ROWS; row++) {
                for (int column = 0; column < ROWS; column++) {
                    long cells = Lamp.moved(corner, row, column);
                    if (cells != 0L && (cells & ~wanted) == 0L) {
                        found++;
                    }
                }
            }
            return found;
        }
    }

    /** The order of scenes with the least cost, and of those the first by numbers. */
    private static final class Route {
        private int cost = 0;
        private final int[] steps = new int[MOST_IN_ORDER];
        /** By a set of scenes that are told and the last of them: the least cost of what is to come. */
        private final int[] rest = new int[(1 << MOST_IN_ORDER) * MOST_IN_ORDER];

        /** Only for at most MOST_IN_ORDER scenes. */
        void plan(Stage stage) {
            int many = Math.min(stage.scenes, MOST_IN_ORDER);
            // Greater sets come first: what a set's rest is made of has more scenes told.
            for (int set = (1 << many) - 1; set > 0; set--) {
                for (int last = 0; last < many; last++) {
                    if ((set >> last & 1) == 1) {
                        int next = bestNext(stage, set, last, many);
                        rest[set * MOST_IN_ORDER + last] = next < 0 ? 0 : costVia(stage, set, last, next);
                    }
                }
            }
            walk(stage, many);
        }

        private void walk(Stage stage, int many) {
            int set = 0;
            int last = -1;
            cost = 0;
            for (int i = 0; i < many; i++) {
                int next = bestNext(stage, set, last, many);
                if (next < 0) {
                    return;
                }
                if (i == 0) {
                    cost = costVia(stage, set, last, next);
                }
                steps[i] = next;
                set |= 1 << next;
                last = next;
            }
        }

        /** The scene not yet told by which the rest costs least, the least of several; -1: all are told. */
        private int bestNext(Stage stage, int set, int last, int many) {
            int best = -1;
            int least = 0;
            for (int next = 0; next < many; next++) {
                if ((set >> next & 1) == 1) {
                    continue;
                }
                int via = costVia(stage, set, last, next);
                if (best < 0 || via < least) {
                    best = next;
                    least = via;
                }
            }
            return best;
        }

        /** The first scene (last is -1 then) is come to without a cost. */
        private int costVia(Stage stage, int set, int last, int next) {
            int step = last < 0 ? 0 : stage.changesBetween(last, next);
            return step + rest[(set | 1 << next) * MOST_IN_ORDER + next];
        }
    }

    /** Bytes that wait to be told as a play. */
    private static final class Tape {
        private int size = 0;
        private final int[] bytes = new int[MOST_BYTES];

        boolean hasRoomFor(int n) {
            return n <= MOST_BYTES - size;
        }

        /** Only behind hasRoomFor(). */
        void add(int number) {
            bytes[size] = number & 255;
            size++;
        }
    }

    /**
     * Performs the text on its tape, on a stage of its own: a fault must leave the one outside as it
     * was. What can't go on leaves the token that can't stand there as the one looked at, so a
     * fault's place is always where that token begins.
     */
    private static final class Script {
        private static final int END = 0;
        private static final int WORD = 1;
        private static final int NUMBER = 2;
        private static final int SIGNS = 3;
        private static final int SEMICOLON = 4;
        private static final int BLANK = 5;
        private static final int OTHER = 6;
        private static final int TOO_GREAT = 10000;

        private final Tape tape = new Tape();
        private final Stage stage = new Stage();
        private int token = END;
        private int start = 0;
        private int end = 0;
        private long drawn = 0L;

        /** How many items there are, or -1 less the place of the fault. */
        int perform() {
            end = 0;
            advance();
            for (int items = 1; items <= MOST_BYTES; items++) {
                if (!item()) {
                    return -1 - start;
                }
                if (token == END) {
                    return items;
                }
                if (token != SEMICOLON) {
                    return -1 - start;
                }
                advance();
            }
            return -1 - start;
        }

        private void advance() {
            start = end;
            while (start < tape.size && sortOf(tape.bytes[start]) == BLANK) {
                start++;
            }
            end = start;
            if (start >= tape.size) {
                token = END;
                return;
            }
            token = sortOf(tape.bytes[start]);
            end++;
            if (token == SEMICOLON || token == OTHER) {
                return;
            }
            while (end < tape.size && sortOf(tape.bytes[end]) == token) {
                end++;
            }
        }

        private static int sortOf(int sign) {
            if (sign >= 'a' && sign <= 'z') {
                return WORD;
            }
            if (sign >= '0' && sign <= '9') {
                return NUMBER;
            }
            switch (sign) {
                case '#':
                case '.':
                    return SIGNS;
                case ';':
                    return SEMICOLON;
                case ' ':
                    return BLANK;
                default:
                    return OTHER;
            }
        }

        private boolean isWord(String word) {
            if (token != WORD || end - start != word.length()) {
                return false;
            }
            for (int i = 0; i < word.length(); i++) {
                if (tape.bytes[start + i] != word.charAt(i)) {
                    return false;
                }
            }
            return true;
        }

        private boolean item() {
            int kind = kindNamed();
            if (kind >= 0) {
                return shapeItem(kind);
            }
            if (isWord("scene")) {
                return sceneItem();
            }
            if (isWord("hold")) {
                return holdItem();
            }
            if (isWord("torn")) {
                return tornItem();
            }
            if (passes("drop")) {
                stage.emptyHands();
                return true;
            }
            return false;
        }

        private int kindNamed() {
            if (isWord("shape")) {
                return Kinds.SHAPE;
            }
            if (isWord("turned")) {
                return Kinds.TURNED;
            }
            if (isWord("mirrored")) {
                return Kinds.MIRRORED;
            }
            if (isWord("hollow")) {
                return Kinds.HOLLOW;
            }
            if (isWord("double")) {
                return Kinds.DOUBLE;
            }
            return isWord("filled") ? Kinds.FILLED : -1;
        }

        private boolean shapeItem(int kind) {
            if (!stage.hasRoomForShape()) {
                return false;
            }
            advance();
            if (!drawnRows(4)) {
                return false;
            }
            stage.addShape(kind, (int) drawn);
            return true;
        }

        private boolean sceneItem() {
            if (!stage.hasRoomForScene()) {
                return false;
            }
            advance();
            if (!drawnRows(ROWS)) {
                return false;
            }
            stage.addScene(drawn);
            return true;
        }

        /** Sets drawn by one row of signs or more, on a square with sides of a length. */
        private boolean drawnRows(int side) {
            drawn = 0L;
            if (token != SIGNS) {
                return false;
            }
            for (int row = 0; row < side && token == SIGNS; row++) {
                if (end - start > side) {
                    return false;
                }
                for (int column = 0; column < end - start; column++) {
                    if (tape.bytes[start + column] == '#') {
                        drawn |= 1L << (side * row + column);
                    }
                }
                advance();
            }
            return true;
        }

        private boolean holdItem() {
            int free = stage.freeHold();
            if (free < 0) {
                return false;
            }
            advance();
            int shape = value();
            if (!stage.hasShape(shape) || stage.holdOf(shape) >= 0) {
                return false;
            }
            advance();
            int near = passes("near") ? numberWithin(1, 2) : -1;
            if (near < 0) {
                return false;
            }
            int turn = passes("turn") ? numberWithin(0, TURNS - 1) : -1;
            if (turn < 0) {
                return false;
            }
            int row = passes("at") ? numberWithin(0, ROWS - 1) : -1;
            if (row < 0) {
                return false;
            }
            int column = numberWithin(0, ROWS - 1);
            if (column < 0) {
                return false;
            }
            stage.take(free, shape, Lamp.placingAt(TURNS * near + turn, row, column));
            return true;
        }

        private boolean tornItem() {
            advance();
            int shape = value();
            if (!stage.hasShape(shape)) {
                return false;
            }
            stage.setTorn(shape, true);
            advance();
            return true;
        }

        private boolean passes(String word) {
            if (!isWord(word)) {
                return false;
            }
            advance();
            return true;
        }

        /** -1 if what is looked at is no such number. */
        private int numberWithin(int least, int most) {
            int number = value();
            if (number < least || number > most) {
                return -1;
            }
            advance();
            return number;
        }

        /** The number looked at, or -1 if it is none; never above TOO_GREAT, however many digits it has. */
        private int value() {
            if (token != NUMBER) {
                return -1;
            }
            int number = 0;
            for (int i = start; i < end; i++) {
                number = Math.min(TOO_GREAT, 10 * number + tape.bytes[i] - '0');
            }
            return number;
        }
    }

    /** A sheet of numbers; of 0 bits while it is MISSING. */
    private static final class Paper {
        private int bits = 0;
        private int size = 0;
        private final long[] numbers = new long[MOST_NUMBERS];

        boolean isMissing() {
            return bits == 0;
        }

        void renew(int itsBits, int itsSize) {
            bits = itsBits;
            size = itsSize;
            for (int i = 0; i < MOST_NUMBERS; i++) {
                numbers[i] = 0L;
            }
        }

        /** Only for a place below size. */
        void put(int i, long v) {
            numbers[i] = bits == 64 ? v : v & (1L << bits) - 1;
        }

        boolean hasPart(int from, int n) {
            return from >= 0 && n >= 0 && n <= size && from <= size - n;
        }
    }
}
