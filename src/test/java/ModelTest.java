import java.util.ArrayList;
import java.util.Arrays;
import java.util.List;
import java.util.Random;
import java.util.regex.Matcher;
import java.util.regex.Pattern;

/** Runs of calls by fixed seeds, each answer compared with that of a slow model written cell by cell. */
public final class ModelTest {
    private static final int RUNS = 400;
    private static final int CALLS = 512;

    /** The document's words, as plainly as they can be told; nothing here is shared with the class. */
    private static final class Model {
        static final long BEYOND = -1000000001;
        static final long FULL = -1000000002;
        static final long KIND = -1000000003;
        static final long NONE = -1000000004;
        static final long STATE = -1000000005;
        static final long MISSING = -1000000006;
        static final long SIZE = -1000000007;
        static final String[] NAMES = {"shape", "turned", "mirrored", "hollow", "double", "filled"};

        static final class Shape {
            int kind;
            int points;
            boolean torn;
            Shape(int kind, int points, boolean torn) {
                this.kind = kind;
                this.points = points;
                this.torn = torn;
            }
        }

        static final class World {
            final List<Shape> shapes = new ArrayList<>();
            final int[][] hands = {null, null, null, null};
            final List<Long> scenes = new ArrayList<>();
            int allowed = 63;

            World twin() {
                World w = new World();
                for (Shape s : shapes) {
                    w.shapes.add(new Shape(s.kind, s.points, s.torn));
                }
                for (int h = 0; h < 4; h++) {
                    w.hands[h] = hands[h] == null ? null : hands[h].clone();
                }
                w.scenes.addAll(scenes);
                w.allowed = allowed;
                return w;
            }
        }

        World w = new World();
        World kept = null;
        final List<Integer> tape = new ArrayList<>();
        final long[][] sheets = new long[4][];
        final int[] bits = new int[4];
        final long[] told = new long[7];

        long tell(long f) {
            told[(int) (-1000000001L - f)]++;
            return f;
        }

        boolean isShape(int s) {
            return s >= 0 && s < w.shapes.size();
        }

        boolean isScene(int s) {
            return s >= 0 && s < w.scenes.size();
        }

        static boolean[][] grid(int points) {
            boolean[][] g = new boolean[4][4];
            for (int i = 0; i < 16; i++) {
                g[i / 4][i % 4] = (points >> i & 1) == 1;
            }
            return g;
        }

        static boolean at(boolean[][] g, int r, int c) {
            return r >= 0 && r < 4 && c >= 0 && c < 4 && g[r][c];
        }

        static boolean[][] thrownGrid(int kind, int points, int turn) {
            boolean[][] g = grid(points);
            if (kind == 1 || kind == 3 || kind == 5) {
                for (int t = 0; t < turn; t++) {
                    boolean[][] n = new boolean[4][4];
                    for (int r = 0; r < 4; r++) {
                        for (int c = 0; c < 4; c++) {
                            n[c][3 - r] = g[r][c];
                        }
                    }
                    g = n;
                }
            }
            if ((kind == 2 || kind == 4) && turn % 2 == 1) {
                boolean[][] n = new boolean[4][4];
                for (int r = 0; r < 4; r++) {
                    for (int c = 0; c < 4; c++) {
                        n[r][3 - c] = g[r][c];
                    }
                }
                g = n;
            }
            boolean[][] out = new boolean[4][4];
            for (int r = 0; r < 4; r++) {
                for (int c = 0; c < 4; c++) {
                    out[r][c] = g[r][c];
                    if (kind == 3 && at(g, r - 1, c) && at(g, r + 1, c) && at(g, r, c - 1) && at(g, r, c + 1)) {
                        out[r][c] = false;
                    }
                    if (kind == 4 && at(g, r - 1, c)) {
                        out[r][c] = true;
                    }
                    if (kind == 5) {
                        boolean before = false;
                        boolean behind = false;
                        for (int k = 0; k < 4; k++) {
                            before |= k < c && g[r][k];
                            behind |= k > c && g[r][k];
                        }
                        out[r][c] |= before && behind;
                    }
                }
            }
            return out;
        }

        long shadowOf(int shape, int placing) {
            Shape s = w.shapes.get(shape);
            int near = placing / 1000 / 4;
            boolean[][] g = thrownGrid(s.kind, s.points, placing / 1000 % 4);
            long cells = 0;
            for (int r = 0; r < 4; r++) {
                for (int c = 0; c < 4; c++) {
                    for (int i = 0; g[r][c] && i < near * near; i++) {
                        int row = placing / 10 % 100 + near * r + i / near;
                        int column = placing % 10 + near * c + i % near;
                        if (row < 8 && column < 8) {
                            cells |= 1L << (8 * row + column);
                        }
                    }
                }
            }
            return cells;
        }

        static final List<Integer> PLACINGS = new ArrayList<>();
        static {
            for (int near = 1; near <= 2; near++) {
                for (int turn = 0; turn < 4; turn++) {
                    for (int row = 0; row < 8; row++) {
                        for (int column = 0; column < 8; column++) {
                            PLACINGS.add(1000 * (4 * near + turn) + 10 * row + column);
                        }
                    }
                }
            }
        }

        boolean allows(int placing) {
            int near = placing / 4000;
            int turn = placing / 1000 % 4;
            return (w.allowed & 1 << turn) != 0 && (w.allowed & (near == 1 ? 16 : 32)) != 0;
        }

        int holdOf(int shape) {
            for (int h = 0; h < 4; h++) {
                if (w.hands[h] != null && w.hands[h][0] == shape) {
                    return h;
                }
            }
            return -1;
        }

        int free() {
            for (int h = 0; h < 4; h++) {
                if (w.hands[h] == null) {
                    return h;
                }
            }
            return -1;
        }

        int byHowMany(int cell, int without) {
            int n = 0;
            for (int[] h : w.hands) {
                if (h != null && h[0] != without && !w.shapes.get(h[0]).torn && (shadowOf(h[0], h[1]) >>> cell & 1) == 1) {
                    n++;
                }
            }
            return n;
        }

        long darkWithout(int without) {
            long d = 0;
            for (int cell = 0; cell < 64; cell++) {
                if (byHowMany(cell, without) > 0) {
                    d |= 1L << cell;
                }
            }
            return d;
        }

        static int off(long a, long b) {
            int n = 0;
            for (int i = 0; i < 64; i++) {
                if ((a >>> i & 1) != (b >>> i & 1)) {
                    n++;
                }
            }
            return n;
        }

        /** Least OFF and the least number by which it is had. */
        int[] nearest(int shape, long already, long wanted) {
            int[] best = {1000, -1};
            for (int p : PLACINGS) {
                if (allows(p)) {
                    int o = Long.bitCount((already | shadowOf(shape, p)) ^ wanted);
                    if (o < best[0]) {
                        best = new int[] {o, p};
                    }
                }
            }
            return best;
        }

        int bestOff(long wanted, int without) {
            int least = 1000;
            for (int s = 0; s < w.shapes.size(); s++) {
                if (s != without && !w.shapes.get(s).torn) {
                    least = Math.min(least, nearest(s, 0, wanted)[0]);
                }
            }
            return least;
        }

        int change(int a, int b) {
            int o = off(w.scenes.get(a), w.scenes.get(b));
            return o / 4 + (o % 4 > 0 ? 1 : 0);
        }

        /** All orders, the first by numbers first. */
        static void orders(List<Integer> head, int n, List<List<Integer>> all) {
            if (head.size() == n) {
                all.add(new ArrayList<>(head));
            }
            for (int i = 0; i < n; i++) {
                if (!head.contains(i)) {
                    head.add(i);
                    orders(head, n, all);
                    head.remove(head.size() - 1);
                }
            }
        }

        long shape(int kind, int points) {
            if (kind < 0 || kind > 5 || points < 0 || points > 65535) return tell(BEYOND);
            if (w.shapes.size() == 9) return tell(FULL);
            w.shapes.add(new Shape(kind, points, false));
            return w.shapes.size() - 1;
        }

        long of(int s, int what) {
            if (!isShape(s) || what < 0 || what > 3) return tell(BEYOND);
            Shape x = w.shapes.get(s);
            return new long[] {x.kind, x.points, x.torn ? 1 : 0, holdOf(s)}[what];
        }

        long cut(int s, int v) {
            if (!isShape(s) || v < 0 || v > 65535) return tell(BEYOND);
            int was = w.shapes.get(s).points;
            w.shapes.get(s).points = v;
            return was;
        }

        long tear(int s, boolean is) {
            if (!isShape(s)) return tell(BEYOND);
            boolean was = w.shapes.get(s).torn;
            w.shapes.get(s).torn = is;
            return was != is ? 1 : 0;
        }

        long become(int s, int kind) {
            if (!isShape(s) || kind < 0 || kind > 5) return tell(BEYOND);
            int was = w.shapes.get(s).kind;
            w.shapes.get(s).kind = kind;
            return was;
        }

        long as(int s, int kind) {
            if (!isShape(s) || kind < 0 || kind > 5) return tell(BEYOND);
            String[] upper = {"0", "10", "20", "310", "420", "510"};
            return upper[w.shapes.get(s).kind].indexOf((char) ('0' + kind)) >= 0 ? w.shapes.get(s).points : tell(KIND);
        }

        long thrown(int s, int turn) {
            if (!isShape(s) || turn < 0 || turn > 3) return tell(BEYOND);
            boolean[][] g = thrownGrid(w.shapes.get(s).kind, w.shapes.get(s).points, turn);
            int p = 0;
            for (int i = 0; i < 16; i++) {
                p |= g[i / 4][i % 4] ? 1 << i : 0;
            }
            return p;
        }

        long shadow(int s, int p) {
            if (!isShape(s) || !PLACINGS.contains(p)) return tell(BEYOND);
            return shadowOf(s, p);
        }

        long hold(int s, int p) {
            if (!isShape(s) || !PLACINGS.contains(p)) return tell(BEYOND);
            if (holdOf(s) >= 0) return tell(STATE);
            int h = free();
            if (h < 0) return tell(FULL);
            w.hands[h] = new int[] {s, p};
            return h;
        }

        long move(int s, int p) {
            if (!isShape(s) || !PLACINGS.contains(p)) return tell(BEYOND);
            int h = holdOf(s);
            if (h < 0) return tell(STATE);
            int was = w.hands[h][1];
            w.hands[h][1] = p;
            return was;
        }

        long drop(int s) {
            if (!isShape(s)) return tell(BEYOND);
            int h = holdOf(s);
            if (h < 0) return tell(STATE);
            w.hands[h] = null;
            return h;
        }

        long held(int h, int what) {
            if (h < 0 || h > 3 || what < 0 || what > 1) return tell(BEYOND);
            return w.hands[h] == null ? -1 : w.hands[h][what];
        }

        long dark() {
            return darkWithout(-1);
        }

        long single() {
            long d = 0;
            for (int cell = 0; cell < 64; cell++) {
                d |= byHowMany(cell, -1) == 1 ? 1L << cell : 0;
            }
            return d;
        }

        long spare() {
            for (int s = 0; s < w.shapes.size(); s++) {
                if (holdOf(s) >= 0 && !w.shapes.get(s).torn && darkWithout(s) == dark()) return s;
            }
            return tell(NONE);
        }

        long scene(long p) {
            if (w.scenes.size() == 7) return tell(FULL);
            w.scenes.add(p);
            return w.scenes.size() - 1;
        }

        long draw(int s) {
            if (!isScene(s)) return tell(BEYOND);
            return off(w.scenes.set(s, dark()), dark());
        }

        long picture(int s) {
            return isScene(s) ? w.scenes.get(s) : tell(BEYOND);
        }

        long off(int s) {
            return isScene(s) ? off(dark(), w.scenes.get(s)) : tell(BEYOND);
        }

        long changes(int a, int b) {
            return isScene(a) && isScene(b) ? change(a, b) : tell(BEYOND);
        }

        long allow(int set) {
            if (set < 0 || set > 63 || set % 16 == 0 || set < 16) return tell(BEYOND);
            int was = w.allowed;
            w.allowed = set;
            return was;
        }

        long nearest(int s, int scene, int what) {
            if (!isShape(s) || !isScene(scene) || what < 0 || what > 1) return tell(BEYOND);
            return nearest(s, 0, w.scenes.get(scene))[1 - what];
        }

        long best(int scene) {
            if (!isScene(scene)) return tell(BEYOND);
            int least = bestOff(w.scenes.get(scene), -1);
            for (int s = 0; s < w.shapes.size(); s++) {
                if (!w.shapes.get(s).torn && nearest(s, 0, w.scenes.get(scene))[0] == least) return s;
            }
            return tell(NONE);
        }

        long play(int scene) {
            if (!isScene(scene)) return tell(BEYOND);
            Arrays.fill(w.hands, null);
            long wanted = w.scenes.get(scene);
            while (free() >= 0) {
                long d = dark();
                int least = off(d, wanted);
                int[] chosen = null;
                for (int s = 0; s < w.shapes.size(); s++) {
                    if (w.shapes.get(s).torn || holdOf(s) >= 0) continue;
                    int[] n = nearest(s, d, wanted);
                    if (n[0] < least) {
                        least = n[0];
                        chosen = new int[] {s, n[1]};
                    }
                }
                if (chosen == null) break;
                w.hands[free()] = chosen;
            }
            return off(dark(), wanted);
        }

        long fits(int s, int scene) {
            if (!isShape(s) || !isScene(scene)) return tell(BEYOND);
            int n = 0;
            for (int p : PLACINGS) {
                long c = shadowOf(s, p);
                if (allows(p) && c != 0 && (c | w.scenes.get(scene)) == w.scenes.get(scene)) n++;
            }
            return n;
        }

        long taken(int scene, int n) {
            if (!isScene(scene) || n < 0 || n > 64) return tell(BEYOND);
            int set = 0;
            for (int s = 0; s < w.scenes.size(); s++) {
                if (s != scene && off(w.scenes.get(s), w.scenes.get(scene)) <= n) set |= 1 << s;
            }
            return set;
        }

        long seen() {
            for (int o = 0; o <= 64; o++) {
                for (int s = 0; s < w.scenes.size(); s++) {
                    if (off(dark(), w.scenes.get(s)) == o) return s;
                }
            }
            return tell(NONE);
        }

        long order(int what) {
            if (what < -1) return tell(BEYOND);
            int n = w.scenes.size();
            if (n > 6) return tell(SIZE);
            List<List<Integer>> all = new ArrayList<>();
            orders(new ArrayList<>(), n, all);
            int least = 1000;
            List<Integer> first = null;
            for (List<Integer> o : all) {
                int cost = 0;
                for (int i = 1; i < n; i++) cost += change(o.get(i - 1), o.get(i));
                if (cost < least) {
                    least = cost;
                    first = o;
                }
            }
            return what == -1 ? least : what < n ? first.get(what) : tell(NONE);
        }

        long closest() {
            for (int n = 0; n <= 64; n++) {
                for (int a = 0; a < w.scenes.size(); a++) {
                    for (int b = 0; b < a; b++) {
                        if (off(w.scenes.get(a), w.scenes.get(b)) <= n) return n;
                    }
                }
            }
            return tell(NONE);
        }

        long harmless() {
            int set = 0;
            boolean whole = false;
            for (int s = 0; s < w.shapes.size(); s++) {
                if (w.shapes.get(s).torn) continue;
                whole = true;
                boolean harm = false;
                for (long p : w.scenes) harm |= bestOff(p, s) > bestOff(p, -1);
                set |= harm ? 0 : 1 << s;
            }
            return whole && !w.scenes.isEmpty() ? set : tell(NONE);
        }

        long feed(int bytes, int n) {
            if (n < 1 || n > 4) return tell(BEYOND);
            if (tape.size() + n > 120) return tell(FULL);
            for (int i = n - 1; i >= 0; i--) tape.add(bytes >>> 8 * i & 255);
            return tape.size();
        }

        long wipe() {
            int n = tape.size();
            tape.clear();
            return n;
        }

        private static final Pattern TOKEN = Pattern.compile(" *([a-z]+|[0-9]+|[#.]+|;)");
        private String source;
        private int place;
        private int begin;

        /** A fault of the text, told by its place. */
        private static final class Fault extends RuntimeException {
            private static final long serialVersionUID = 1L;
            final int place;
            Fault(int place) {
                this.place = place;
            }
        }

        private String peek() {
            Matcher m = TOKEN.matcher(source).region(place, source.length());
            if (m.lookingAt()) {
                begin = m.start(1);
                return m.group(1);
            }
            begin = place;
            while (begin < source.length() && source.charAt(begin) == ' ') begin++;
            return begin == source.length() ? "" : "?";
        }

        private String next() {
            String t = peek();
            place = begin + t.length();
            return t;
        }

        private void must(boolean is) {
            if (!is) throw new Fault(begin);
        }

        private int number(int least, int most) {
            String t = next();
            must(t.matches("[0-9]+"));
            t = t.replaceFirst("^0+(?=.)", "");
            must(t.length() <= 4);
            int v = Integer.parseInt(t);
            must(v >= least && v <= most);
            return v;
        }

        private long rows(int side) {
            long cells = 0;
            int row = 0;
            do {
                String t = next();
                must(t.matches("[#.]{1," + side + "}"));
                for (int i = 0; i < t.length(); i++) {
                    if (t.charAt(i) == '#') cells |= 1L << side * row + i;
                }
                row++;
            } while (row < side && peek().matches("[#.]+"));
            return cells;
        }

        private void item() {
            String word = next();
            int kind = Arrays.asList(NAMES).indexOf(word);
            must(kind >= 0 || List.of("scene", "hold", "drop", "torn").contains(word));
            if (kind >= 0) {
                must(w.shapes.size() < 9);
                w.shapes.add(new Shape(kind, (int) rows(4), false));
            } else if (word.equals("scene")) {
                must(w.scenes.size() < 7);
                w.scenes.add(rows(8));
            } else if (word.equals("drop")) {
                Arrays.fill(w.hands, null);
            } else if (word.equals("torn")) {
                w.shapes.get(number(0, w.shapes.size() - 1)).torn = true;
            } else {
                must(free() >= 0);
                int s = number(0, w.shapes.size() - 1);
                must(holdOf(s) < 0);
                must(next().equals("near"));
                int near = number(1, 2);
                must(next().equals("turn"));
                int turn = number(0, 3);
                must(next().equals("at"));
                int row = number(0, 7);
                int column = number(0, 7);
                w.hands[free()] = new int[] {s, 1000 * (4 * near + turn) + 10 * row + column};
            }
        }

        long text() {
            StringBuilder b = new StringBuilder();
            for (int i : tape) b.append((char) i);
            tape.clear();
            source = b.toString();
            place = 0;
            World before = w.twin();
            int items = 0;
            try {
                String t;
                do {
                    item();
                    items++;
                    t = next();
                } while (t.equals(";"));
                must(t.isEmpty());
                return items;
            } catch (Fault f) {
                w = before;
                return -1 - f.place;
            }
        }

        long sheet(int s, int b, int n) {
            if (s < 0 || s > 3 || b != 0 && b != 8 && b != 16 && b != 64) return tell(BEYOND);
            if (n < 0) return tell(SIZE);
            if (n > 40) return tell(BEYOND);
            sheets[s] = b == 0 ? null : new long[n];
            bits[s] = b;
            return b == 0 ? 0 : n;
        }

        long write(int s, int i, long v) {
            if (s < 0 || s > 3) return tell(BEYOND);
            if (sheets[s] == null) return tell(MISSING);
            if (i < 0 || i >= sheets[s].length) return tell(BEYOND);
            long was = sheets[s][i];
            sheets[s][i] = bits[s] == 8 ? v & 255 : bits[s] == 16 ? v & 65535 : v;
            return was;
        }

        long copy(int s, int from, int t, int to, int n) {
            if (s < 0 || s > 3 || t < 0 || t > 3) return tell(BEYOND);
            if (sheets[s] == null || sheets[t] == null) return tell(MISSING);
            if (bits[s] != bits[t]) return tell(KIND);
            if (from < 0 || to < 0 || n < 0 || (long) from + n > sheets[s].length || (long) to + n > sheets[t].length) return tell(BEYOND);
            long[] were = sheets[s].clone();
            for (int i = 0; i < n; i++) sheets[t][to + i] = were[from + i];
            return n;
        }

        long lays(int s) {
            if (s < 0 || s > 3) return tell(BEYOND);
            if (sheets[s] == null) return tell(MISSING);
            int n = 0;
            for (; n < w.scenes.size() && n < sheets[s].length; n++) w.scenes.set(n, sheets[s][n]);
            return n;
        }

        private long darkRow(int row) {
            long d = 0;
            for (int c = 0; c < 8; c++) d += (dark() >>> 8 * row + c & 1) << c;
            return d;
        }

        long film(int s) {
            if (s < 0 || s > 3) return tell(BEYOND);
            if (sheets[s] == null) return tell(MISSING);
            int n = 0;
            for (; n < 8 && n < sheets[s].length; n++) sheets[s][n] = darkRow(n);
            return n;
        }

        long read(int s) {
            if (s < 0 || s > 3) return tell(BEYOND);
            if (sheets[s] == null) return tell(MISSING);
            for (int i = 0; i < 8 && i < sheets[s].length; i++) {
                if ((sheets[s][i] & 255) != darkRow(i)) return 1 + i;
            }
            return 0;
        }

        long image() {
            kept = w.twin();
            return 1;
        }

        long undo() {
            if (kept == null) return tell(NONE);
            w = kept.twin();
            return w.shapes.size();
        }

        long forget() {
            int was = kept == null ? 0 : 1;
            kept = null;
            return was;
        }

        long count(int what) {
            int torn = 0;
            for (Shape s : w.shapes) torn += s.torn ? 1 : 0;
            int holds = 0;
            for (int[] h : w.hands) holds += h == null ? 0 : 1;
            long[] all = {w.shapes.size(), torn, w.scenes.size(), holds, off(dark(), 0L), tape.size(), w.allowed};
            return what < 0 || what > 6 ? tell(BEYOND) : all[what];
        }

        long status(int which) {
            if (which < -1 || which > 6) return tell(BEYOND);
            long all = 0;
            for (long t : told) all += t;
            return which == -1 ? all : told[which];
        }
    }

    private static final int[] ODD = {-1, -2, 7, 8, 9, 10, 64, 65, 1 << 16, Integer.MAX_VALUE, Integer.MIN_VALUE};
    private final Random random;
    private final int run;
    private final LampShapes x = new LampShapes();
    private final Model m = new Model();
    private String call;
    private static int wrong = 0;
    private static final int[] answered = new int[45];
    private static final int[] found = new int[45];

    private ModelTest(int run) {
        this.run = run;
        this.random = new Random(1000003L * run + 17);
    }

    private int odd(int usual) {
        return random.nextInt(25) == 0 ? ODD[random.nextInt(ODD.length)] : usual;
    }

    private int aShape() {
        return odd(random.nextInt(Math.max(1, m.w.shapes.size())));
    }

    private int aScene() {
        return odd(random.nextInt(Math.max(1, m.w.scenes.size())));
    }

    private int points() {
        return odd(random.nextInt(65536) & (random.nextBoolean() ? random.nextInt(65536) : 65535));
    }

    private int placing() {
        int p = Model.PLACINGS.get(random.nextInt(Model.PLACINGS.size()));
        if (random.nextInt(3) == 0) {
            p = p / 1000 * 1000 + random.nextInt(3) * 10 + random.nextInt(3);
        }
        return random.nextInt(20) == 0 ? odd(p + random.nextInt(3) - 1 + 1000 * random.nextInt(9)) : p;
    }

    private long aPicture() {
        switch (random.nextInt(5)) {
            case 0:
                return random.nextLong();
            case 1:
                return random.nextLong() & random.nextLong() & random.nextLong();
            case 2:
                return m.dark() ^ 1L << random.nextInt(64);
            case 3:
                return m.w.shapes.isEmpty() ? 0L : m.shadowOf(random.nextInt(m.w.shapes.size()), Model.PLACINGS.get(random.nextInt(512)));
            default:
                return m.w.scenes.isEmpty() ? -1L : m.w.scenes.get(random.nextInt(m.w.scenes.size())) ^ 3L << random.nextInt(64);
        }
    }

    private String signs(int most) {
        StringBuilder b = new StringBuilder();
        int n = 1 + random.nextInt(random.nextInt(12) == 0 ? most + 1 : most);
        for (int i = 0; i < n; i++) b.append(random.nextBoolean() ? '#' : '.');
        return b.toString();
    }

    private String rowsOf(int side) {
        StringBuilder b = new StringBuilder();
        int n = (random.nextInt(15) == 0 ? 0 : 1) + random.nextInt(random.nextInt(12) == 0 ? side + 1 : side);
        for (int i = 0; i < n; i++) b.append(' ').append(signs(side));
        return b.toString();
    }

    private String num(int below) {
        int n = random.nextInt(Math.max(1, below) + (random.nextInt(12) == 0 ? 1 : 0));
        return (random.nextInt(10) == 0 ? "00" : "") + n + (random.nextInt(40) == 0 ? "000000000000" : "");
    }

    private String anItem() {
        switch (random.nextInt(8)) {
            case 0:
            case 1:
                return Model.NAMES[random.nextInt(6)] + rowsOf(4);
            case 2:
                return "scene" + rowsOf(8);
            case 3:
                return "drop";
            case 4:
                return "torn " + num(m.w.shapes.size());
            default:
                return "hold " + num(m.w.shapes.size() + 1) + " near " + (random.nextInt(12) == 0 ? num(4) : "1")
                    + (random.nextBoolean() ? " " : "") + "turn " + num(4) + " at " + num(8) + " " + num(8);
        }
    }

    private String aText() {
        StringBuilder b = new StringBuilder();
        int items = random.nextInt(12) == 0 ? 0 : 1 + random.nextInt(5);
        for (int i = 0; i < items; i++) b.append(i > 0 ? random.nextBoolean() ? " ; " : ";" : "").append(anItem());
        String junk = " ;#.az09S\t\n" + (char) 255 + (char) 0;
        for (int i = random.nextInt(4) == 0 ? random.nextInt(3) : 0; i > 0 && b.length() > 0; i--) {
            int at = random.nextInt(b.length());
            if (random.nextBoolean()) b.deleteCharAt(at);
            else b.insert(at, junk.charAt(random.nextInt(junk.length())));
        }
        return b.substring(0, Math.min(120, b.length()));
    }

    private void due(int which, String name, long got, long want) {
        answered[which]++;
        if (want <= -1000000001L && want >= -1000000007L) found[which]++;
        if (got != want && wrong++ < 20) {
            System.out.println("run " + run + ": " + name + call + " answered " + got + ", due is " + want);
        }
    }

    private int arg(int v) {
        call += " " + v;
        return v;
    }

    private long arg(long v) {
        call += " " + v;
        return v;
    }

    private int tellText() {
        String t = aText();
        int calls = 2;
        call = " (before a text)";
        due(32, "wipe", x.wipe(), m.wipe());
        for (int i = 0; i < t.length(); ) {
            int n = Math.min(1 + random.nextInt(4), t.length() - i);
            int bytes = random.nextInt();
            for (int k = 0; k < n; k++) bytes = bytes << 8 | t.charAt(i + k);
            due(31, "feed", x.feed(bytes, n), m.feed(bytes, n));
            i += n;
            calls++;
        }
        call = " of \"" + t + "\"";
        due(33, "text", x.text(), m.text());
        return calls;
    }

    private void shapesCall(int which) {
        int s;
        int v;
        switch (which) {
            case 1: s = arg(odd(random.nextInt(6))); v = arg(points()); due(1, "shape", x.shape(s, v), m.shape(s, v)); break;
            case 2: s = arg(aShape()); v = arg(odd(random.nextInt(4))); due(2, "of", x.of(s, v), m.of(s, v)); break;
            case 3: s = arg(aShape()); v = arg(points()); due(3, "cut", x.cut(s, v), m.cut(s, v)); break;
            case 4: s = arg(aShape()); boolean is = random.nextInt(3) == 0; due(4, "tear " + is, x.tear(s, is), m.tear(s, is)); break;
            case 5: s = arg(aShape()); v = arg(odd(random.nextInt(6))); due(5, "become", x.become(s, v), m.become(s, v)); break;
            case 6: s = arg(aShape()); v = arg(odd(random.nextInt(6))); due(6, "as", x.as(s, v), m.as(s, v)); break;
            case 7: s = arg(aShape()); v = arg(odd(random.nextInt(4))); due(7, "thrown", x.thrown(s, v), m.thrown(s, v)); break;
            case 8: s = arg(aShape()); v = arg(placing()); due(8, "shadow", x.shadow(s, v), m.shadow(s, v)); break;
            case 9: s = arg(aShape()); v = arg(placing()); due(9, "hold", x.hold(s, v), m.hold(s, v)); break;
            case 10: s = arg(aShape()); v = arg(placing()); due(10, "move", x.move(s, v), m.move(s, v)); break;
            case 11: s = arg(aShape()); due(11, "drop", x.drop(s), m.drop(s)); break;
            case 12: s = arg(odd(random.nextInt(4))); v = arg(odd(random.nextInt(2))); due(12, "held", x.held(s, v), m.held(s, v)); break;
            case 13: due(13, "dark", x.dark(), m.dark()); break;
            case 14: due(14, "single", x.single(), m.single()); break;
            default: due(15, "spare", x.spare(), m.spare()); break;
        }
    }

    private void scenesCall(int which) {
        int s;
        int v;
        switch (which) {
            case 16: long p = arg(aPicture()); due(16, "scene", x.scene(p), m.scene(p)); break;
            case 17: s = arg(aScene()); due(17, "draw", x.draw(s), m.draw(s)); break;
            case 18: s = arg(aScene()); due(18, "picture", x.picture(s), m.picture(s)); break;
            case 19: s = arg(aScene()); due(19, "off", x.off(s), m.off(s)); break;
            case 20: s = arg(aScene()); v = arg(aScene()); due(20, "changes", x.changes(s, v), m.changes(s, v)); break;
            case 21: v = arg(random.nextInt(3) == 0 ? odd(random.nextInt(64)) : 63 - (1 << random.nextInt(6))); due(21, "allow", x.allow(v), m.allow(v)); break;
            case 22: s = arg(aShape()); v = arg(aScene()); int what = arg(odd(random.nextInt(2)));
                due(22, "nearest", x.nearest(s, v, what), m.nearest(s, v, what)); break;
            case 23: s = arg(aScene()); due(23, "best", x.best(s), m.best(s)); break;
            case 24: s = arg(aScene()); due(24, "play", x.play(s), m.play(s)); break;
            case 25: s = arg(aShape()); v = arg(aScene()); due(25, "fits", x.fits(s, v), m.fits(s, v)); break;
            case 26: s = arg(aScene()); v = arg(odd(random.nextInt(65))); due(26, "taken", x.taken(s, v), m.taken(s, v)); break;
            case 27: due(27, "seen", x.seen(), m.seen()); break;
            case 28: v = arg(odd(random.nextInt(7) - 1)); due(28, "order", x.order(v), m.order(v)); break;
            case 29: due(29, "closest", x.closest(), m.closest()); break;
            default: due(30, "harmless", x.harmless(), m.harmless()); break;
        }
    }

    private void otherCall(int which) {
        int s = odd(random.nextInt(4));
        int v;
        switch (which) {
            case 31: s = arg(random.nextInt()); v = arg(odd(1 + random.nextInt(4))); due(31, "feed", x.feed(s, v), m.feed(s, v)); break;
            case 32: due(32, "wipe", x.wipe(), m.wipe()); break;
            case 33: due(33, "text", x.text(), m.text()); break;
            case 34: arg(s); int b = arg(odd(new int[] {0, 8, 16, 64, 8, 64, 8}[random.nextInt(7)])); v = arg(odd(random.nextInt(41)));
                due(34, "sheet", x.sheet(s, b, v), m.sheet(s, b, v)); break;
            case 35: arg(s); v = arg(odd(random.nextInt(10))); long n = arg(random.nextLong()); due(35, "write", x.write(s, v, n), m.write(s, v, n)); break;
            case 36: arg(s); int f = arg(odd(random.nextInt(6))); int t = arg(odd(random.nextInt(4))); v = arg(odd(random.nextInt(6)));
                int many = arg(odd(random.nextInt(12))); due(36, "copy", x.copy(s, f, t, v, many), m.copy(s, f, t, v, many)); break;
            case 37: arg(s); due(37, "lays", x.lays(s), m.lays(s)); break;
            case 38: arg(s); due(38, "film", x.film(s), m.film(s)); break;
            case 39: arg(s); due(39, "read", x.read(s), m.read(s)); break;
            case 40: due(40, "image", x.image(), m.image()); break;
            case 41: due(41, "undo", x.undo(), m.undo()); break;
            case 42: due(42, "forget", x.forget(), m.forget()); break;
            case 43: v = arg(odd(random.nextInt(7))); due(43, "count", x.count(v), m.count(v)); break;
            default: v = arg(odd(random.nextInt(8) - 1)); due(44, "status", x.status(v), m.status(v)); break;
        }
    }

    /** Full rows would answer FULL and SIZE for most of a run: undo to the empty start makes room again. */
    private int pick() {
        int which = 1 + random.nextInt(44);
        boolean many = m.w.shapes.size() > 4 || m.w.scenes.size() > 3;
        boolean rare = which == 1 && m.w.shapes.size() > 4 || which == 16 && m.w.scenes.size() > 3 || which == 40 && many;
        return rare && random.nextInt(4) > 0 ? 1 + random.nextInt(44) : which;
    }

    private void go() {
        for (int i = 0; i < CALLS; ) {
            call = "";
            if (random.nextInt(40) == 0) {
                i += tellText();
                continue;
            }
            int which = pick();
            if (which <= 15) {
                shapesCall(which);
            } else if (which <= 30) {
                scenesCall(which);
            } else {
                otherCall(which);
            }
            i++;
        }
        call = " (at the end)";
        for (int s = -1; s < 7; s++) {
            due(44, "status", x.status(s), m.status(s));
        }
    }

    public static void main(String[] args) {
        for (int run = 1; run <= RUNS; run++) {
            new ModelTest(run).go();
        }
        for (int i = 1; i < 45; i++) {
            if (answered[i] - found[i] < RUNS / 2) {
                wrong++;
                System.out.println("call " + i + " answered only " + (answered[i] - found[i]) + " times without a finding");
            }
        }
        System.out.println(wrong == 0 ? "all answers are the model's" : wrong + " answers are not the model's");
        if (wrong != 0) {
            System.exit(1);
        }
    }
}
