import java.math.BigInteger;
import java.util.ArrayDeque;
import java.util.ArrayList;
import java.util.Arrays;
import java.util.HashSet;
import java.util.List;
import java.util.Map;
import java.util.Random;
import java.util.Set;
import java.util.TreeMap;

/**
 * Long runs of drawn calls, each answer beside that of a second model of the document. Where it can, the model
 * goes another way than the class does, so that one mistake is not made twice.
 */
public final class RandomRunsTest {
    private static final int NONE = -1;
    private static final int ROUNDS = 240;
    private static final int CALLS = 512;

    private static long checks = 0;
    private static int wrong = 0;

    public static void main(String[] args) {
        for (int seed = 0; seed < ROUNDS && wrong < 20; seed++) {
            new Run(seed).play();
        }
        everyPairOnASmallGrid();
        System.out.println(wrong == 0 ? checks + " drawn calls are as due" : wrong + " answers are not as due");
        if (wrong != 0) {
            System.exit(1);
        }
    }

    /** Whether they are tidy, for all right triangles with corners on 4 x 3 places, each with each. */
    private static void everyPairOnASmallGrid() {
        int[] gaps = {0, 100, 250, 511};
        List<int[]> all = new ArrayList<>();
        Model grid = new Model();
        for (int p = 0; p < 12; p++) {
            grid.point(gaps[p % 4], 200 * (p / 4));
        }
        for (int n = 0; n < 12 * 12 * 12; n++) {
            int a = n / 144;
            int b = n / 12 % 12;
            int c = n % 12;
            if (a < b && a < c && b != c && grid.turnOf(a, b, c) > 0) {
                all.add(new int[] {a, b, c});
            }
        }
        for (int[] t : all) {
            for (int[] u : all) {
                checkPair(grid, t, u);
            }
        }
    }

    private static void checkPair(Model grid, int[] t, int[] u) {
        TriangleSheet sheet = new TriangleSheet();
        for (int p = 0; p < 12; p++) {
            sheet.point(grid.xs.get(p), grid.ys.get(p));
        }
        sheet.triangle(t[0], t[1], t[2]);
        sheet.triangle(u[0], u[1], u[2]);
        checks++;
        int want = grid.areTidy(t, u) ? 0 : 2;
        int got = sheet.fault();
        if (got != want) {
            wrong++;
            System.out.println("fault() of " + Arrays.toString(t) + " and " + Arrays.toString(u) + " answered " + got
                    + ", due is " + want);
        }
    }

    private interface Call {
        long answer();
    }

    private static String tell(Call call) {
        try {
            return Long.toString(call.answer());
        } catch (RuntimeException e) {
            return "throws." + e.getClass().getSimpleName();
        }
    }

    /** One object's calls. */
    private static final class Run {
        private final int seed;
        private final Random random;
        private final TriangleSheet sheet = new TriangleSheet();
        private final Model model = new Model();
        private final List<String> told = new ArrayList<>();
        private final int[] grid;

        Run(int seed) {
            this.seed = seed;
            this.random = new Random(seed);
            // Coarse grids make corners on edges, edges in line and samples on edges; the fine one large numbers.
            int[][] grids = {{1, 512}, {8, 64}, {24, 21}, {64, 8}, {100, 6}};
            this.grid = grids[seed % grids.length];
        }

        void play() {
            if (isCareful()) {
                startWithSquare();
            }
            for (int n = told.size(); n < CALLS; n++) {
                int drawn = random.nextInt(100);
                boolean careless = drawn < 33;
                step(isCareful() && careless && random.nextInt(20) != 0 ? 33 + random.nextInt(67) : drawn);
            }
        }

        /** A run with few calls that can make the sheet unsound, as its faults would hide what comes behind. */
        private boolean isCareful() {
            return seed % 3 == 0;
        }

        private void check(String name, Call ours, Call due) {
            checks++;
            String want = tell(due);
            String got = tell(ours);
            told.add(name + " = " + want);
            if (!got.equals(want)) {
                wrong++;
                System.out.println("seed " + seed + ", call " + told.size() + ": " + name + " answered " + got
                        + ", due is " + want);
            }
        }

        private void startWithSquare() {
            int[] places = {0, 0, 511, 0, 511, 511, 0, 511};
            for (int i = 0; i < 8; i += 2) {
                point(places[i], places[i + 1]);
            }
            triangle(0, 1, 2);
            triangle(0, 2, 3);
        }

        private int coordinate() {
            int odd = random.nextInt(40);
            if (odd == 0) {
                return random.nextBoolean() ? -1 : 512;
            }
            if (odd == 1) {
                return random.nextBoolean() ? Integer.MIN_VALUE : Integer.MAX_VALUE;
            }
            return Math.min(511, grid[0] * random.nextInt(grid[1]));
        }

        private int anyOf(int count) {
            return count == 0 || random.nextInt(30) == 0 ? random.nextInt(70) - 5 : random.nextInt(count);
        }

        private int anyTriangle() {
            List<Integer> there = new ArrayList<>(model.triangles.keySet());
            if (there.isEmpty() || random.nextInt(20) == 0) {
                return random.nextInt(210) - 5;
            }
            return there.get(random.nextInt(there.size()));
        }

        private int anySide() {
            return random.nextInt(25) == 0 ? random.nextInt(6) - 2 : random.nextInt(3);
        }

        private void point(int x, int y) {
            check("point(" + x + ", " + y + ")", () -> sheet.point(x, y), () -> model.point(x, y));
        }

        private void triangle(int a, int b, int c) {
            check("triangle(" + a + ", " + b + ", " + c + ")", () -> sheet.triangle(a, b, c),
                    () -> model.triangle(a, b, c));
        }

        private void step(int drawn) {
            if (drawn < 12) {
                point(coordinate(), coordinate());
            } else if (drawn < 16) {
                int p = anyOf(model.xs.size());
                int x = coordinate();
                int y = coordinate();
                check("move(" + p + ", " + x + ", " + y + ")", () -> done(() -> sheet.move(p, x, y)),
                        () -> done(() -> model.move(p, x, y)));
            } else if (drawn < 28) {
                drawTriangle();
            } else if (drawn < 33) {
                int t = anyTriangle();
                check("take(" + t + ")", () -> done(() -> sheet.take(t)), () -> done(() -> model.take(t)));
            } else if (drawn < 45) {
                drawPart();
            } else if (drawn < 53) {
                int t = anyTriangle();
                int k = anySide();
                check("turn(" + t + ", " + k + ")", () -> sheet.turn(t, k) ? 1 : 0, () -> model.turn(t, k) ? 1 : 0);
            } else if (drawn < 56) {
                int n = random.nextInt(3) == 0 ? random.nextInt(504) - 1 : random.nextInt(5);
                check("improve(" + n + ")", () -> sheet.improve(n), () -> model.improve(n));
            } else {
                ask(random.nextInt(10));
            }
        }

        private long done(Runnable call) {
            call.run();
            return 0;
        }

        private void drawTriangle() {
            int a = anyOf(model.xs.size());
            int b = anyOf(model.xs.size());
            int c = anyOf(model.xs.size());
            boolean points = model.isPoint(a) && model.isPoint(b) && model.isPoint(c);
            // Mostly right ones, and small sheets with them, so that faults of both kinds come up.
            if (points && model.turnOf(a, b, c) < 0 && random.nextInt(8) != 0) {
                triangle(a, c, b);
            } else {
                triangle(a, b, c);
            }
        }

        private void drawPart() {
            int t = anyTriangle();
            int x = coordinate();
            int y = coordinate();
            int[] corners = model.triangles.get(t);
            if (corners != null && random.nextInt(5) != 0) {
                x = 0;
                y = 0;
                int left = 16;
                for (int k = 0; k < 3; k++) {
                    int weight = k == 2 ? left : random.nextInt(left + 1);
                    left -= weight;
                    x += weight * model.xs.get(corners[k]);
                    y += weight * model.ys.get(corners[k]);
                }
                x /= 16;
                y /= 16;
            }
            int px = x;
            int py = y;
            check("part(" + t + ", " + px + ", " + py + ")", () -> sheet.part(t, px, py), () -> model.part(t, px, py));
        }

        private void ask(int drawn) {
            int t = anyTriangle();
            int k = anySide();
            int i = random.nextInt(35) - 1;
            int j = random.nextInt(35) - 1;
            switch (drawn) {
                case 0:
                    check("fault()", sheet::fault, model::fault);
                    break;
                case 1:
                    int which = random.nextInt(4) - 1;
                    check("culprit(" + which + ")", () -> sheet.culprit(which), () -> model.culprit(which));
                    break;
                case 2:
                    check("covers(" + i + ", " + j + ")", () -> sheet.covers(i, j), () -> model.covering(i, j).size());
                    break;
                case 3:
                    check("who(" + i + ", " + j + ")", () -> sheet.who(i, j), () -> {
                        List<Integer> all = model.covering(i, j);
                        return all.isEmpty() ? NONE : all.get(0);
                    });
                    break;
                case 4:
                    int paint = random.nextInt(6) - 1;
                    check("painted(" + paint + ")", () -> sheet.painted(paint), () -> model.painted(paint));
                    break;
                case 5:
                    int x = coordinate();
                    int y = coordinate();
                    check("locate(" + x + ", " + y + ")", () -> sheet.locate(x, y), () -> model.locate(x, y));
                    break;
                case 6:
                    check("beside(" + t + ", " + k + ")", () -> sheet.beside(t, k), () -> model.beside(t, k));
                    break;
                case 7:
                    check("isGood(" + t + ", " + k + ")", () -> sheet.isGood(t, k) ? 1 : 0,
                            () -> model.isEdge(t, k) && model.isGoodEdge(t, k) ? 1 : 0);
                    break;
                case 8:
                    check("corner(" + t + ", " + k + ")", () -> sheet.corner(t, k),
                            () -> model.isEdge(t, k) ? model.triangles.get(t)[k] : NONE);
                    break;
                default:
                    int what = random.nextInt(10) - 1;
                    check("count(" + what + ")", () -> sheet.count(what), () -> model.count(what));
                    break;
            }
        }
    }

    /** The document again, with sets and maps. */
    private static final class Model {
        private final List<Integer> xs = new ArrayList<>();
        private final List<Integer> ys = new ArrayList<>();
        private final TreeMap<Integer, int[]> triangles = new TreeMap<>();
        private int came = 0;
        private int[] culprits = {NONE, NONE};

        boolean isPlace(int x, int y) {
            return Math.min(x, y) >= 0 && Math.max(x, y) <= 511;
        }

        boolean isPoint(int p) {
            return 0 <= p && p < xs.size();
        }

        boolean isEdge(int t, int k) {
            return triangles.containsKey(t) && 0 <= k && k <= 2;
        }

        int present(int x, int y) {
            for (int p = 0; p < xs.size(); p++) {
                if (xs.get(p) == x && ys.get(p) == y) {
                    return p;
                }
            }
            return NONE;
        }

        int point(int x, int y) {
            if (!isPlace(x, y)) {
                throw new IllegalArgumentException();
            }
            if (xs.size() == 60 || present(x, y) != NONE) {
                throw new IllegalStateException();
            }
            xs.add(x);
            ys.add(y);
            return xs.size() - 1;
        }

        void move(int p, int x, int y) {
            if (!isPoint(p)) {
                throw new IndexOutOfBoundsException();
            }
            if (!isPlace(x, y)) {
                throw new IllegalArgumentException();
            }
            if (present(x, y) != NONE && present(x, y) != p) {
                throw new IllegalStateException();
            }
            xs.set(p, x);
            ys.set(p, y);
        }

        int triangle(int a, int b, int c) {
            if (!isPoint(a) || !isPoint(b) || !isPoint(c)) {
                throw new IndexOutOfBoundsException();
            }
            if (new HashSet<>(List.of(a, b, c)).size() < 3) {
                throw new IllegalArgumentException();
            }
            if (triangles.size() == 60 || came == 200) {
                throw new IllegalStateException();
            }
            triangles.put(came, new int[] {a, b, c});
            return came++;
        }

        void take(int t) {
            if (triangles.remove(t) == null) {
                throw new IndexOutOfBoundsException();
            }
        }

        int part(int t, int x, int y) {
            int[] abc = triangles.get(t);
            if (abc == null) {
                throw new IndexOutOfBoundsException();
            }
            if (!isPlace(x, y)) {
                throw new IllegalArgumentException();
            }
            for (int k = 0; k < 3; k++) {
                if (turnAt(abc[k], abc[(k + 1) % 3], x, y) <= 0) {
                    throw new IllegalArgumentException();
                }
            }
            if (triangles.size() > 58 || came > 198) {
                throw new IllegalStateException();
            }
            int p = point(x, y);
            triangles.put(t, new int[] {abc[0], abc[1], p});
            triangle(abc[1], abc[2], p);
            triangle(abc[2], abc[0], p);
            return p;
        }

        long turnAt(int p, int q, long x, long y) {
            long px = xs.get(p);
            long py = ys.get(p);
            long qx = xs.get(q);
            long qy = ys.get(q);
            return px * qy - py * qx + qx * y - qy * x + x * py - y * px;
        }

        long turnOf(int p, int q, int r) {
            return turnAt(p, q, xs.get(r), ys.get(r));
        }

        boolean isRight(int t) {
            int[] c = triangles.get(t);
            return turnOf(c[0], c[1], c[2]) > 0;
        }

        int beside(int t, int k) {
            if (!isEdge(t, k)) {
                return NONE;
            }
            int[] c = triangles.get(t);
            TreeMap<Integer, Integer> found = new TreeMap<>();
            for (Map.Entry<Integer, int[]> e : triangles.entrySet()) {
                for (int m = 0; m < 3; m++) {
                    boolean back = e.getValue()[m] == c[(k + 1) % 3] && e.getValue()[(m + 1) % 3] == c[k];
                    if (back && e.getKey() != t) {
                        found.put(e.getKey(), m);
                    }
                }
            }
            return found.isEmpty() ? NONE : found.firstKey();
        }

        int across(int t, int k) {
            int[] c = triangles.get(t);
            for (int p : triangles.get(beside(t, k))) {
                if (p != c[k] && p != c[(k + 1) % 3]) {
                    return p;
                }
            }
            throw new AssertionError("a neighbour without a third corner");
        }

        boolean isGoodEdge(int t, int k) {
            if (beside(t, k) == NONE) {
                return true;
            }
            int d = across(t, k);
            BigInteger[][] rows = new BigInteger[3][];
            for (int m = 0; m < 3; m++) {
                int p = triangles.get(t)[(k + m) % 3];
                BigInteger x = BigInteger.valueOf(xs.get(p) - xs.get(d));
                BigInteger y = BigInteger.valueOf(ys.get(p) - ys.get(d));
                rows[m] = new BigInteger[] {x, y, x.multiply(x).add(y.multiply(y))};
            }
            return determinant(rows).signum() <= 0;
        }

        /** By Sarrus. */
        static BigInteger determinant(BigInteger[][] r) {
            BigInteger sum = BigInteger.ZERO;
            for (int i = 0; i < 3; i++) {
                sum = sum.add(r[0][i].multiply(r[1][(i + 1) % 3]).multiply(r[2][(i + 2) % 3]));
                sum = sum.subtract(r[0][i].multiply(r[1][(i + 2) % 3]).multiply(r[2][(i + 1) % 3]));
            }
            return sum;
        }

        boolean turn(int t, int k) {
            if (!isEdge(t, k)) {
                throw new IndexOutOfBoundsException();
            }
            int u = beside(t, k);
            if (u == NONE) {
                return false;
            }
            int[] abc = triangles.get(t);
            int a = abc[k];
            int b = abc[(k + 1) % 3];
            int c = abc[(k + 2) % 3];
            int d = across(t, k);
            if (turnOf(a, d, c) <= 0 || turnOf(d, b, c) <= 0) {
                return false;
            }
            triangles.put(t, new int[] {c, a, d});
            triangles.put(u, new int[] {d, b, c});
            return true;
        }

        int improve(int n) {
            if (n < 0 || n > 500) {
                throw new IllegalArgumentException();
            }
            int times = 0;
            while (times < n && improveOnce()) {
                times++;
            }
            return times;
        }

        boolean improveOnce() {
            for (int t : new ArrayList<>(triangles.keySet())) {
                for (int k = 0; k < 3; k++) {
                    if (!isGoodEdge(t, k) && turn(t, k)) {
                        return true;
                    }
                }
            }
            return false;
        }

        int fault() {
            for (int t : triangles.keySet()) {
                if (!isRight(t)) {
                    culprits = new int[] {t, NONE};
                    return 1;
                }
                for (int u : triangles.headMap(t).keySet()) {
                    if (!areTidy(triangles.get(t), triangles.get(u))) {
                        culprits = new int[] {t, u};
                        return 2;
                    }
                }
            }
            return 0;
        }

        int culprit(int which) {
            return which == 0 || which == 1 ? culprits[which] : NONE;
        }

        /** By how many corners are shared. */
        boolean areTidy(int[] t, int[] u) {
            List<Integer> shared = new ArrayList<>();
            for (int p : t) {
                for (int q : u) {
                    if (p == q) {
                        shared.add(p);
                    }
                }
            }
            switch (shared.size()) {
                case 0:
                    return isBeyondAnEdge(t, u) || isBeyondAnEdge(u, t);
                case 1:
                    return haveApartAngles(t, u, shared.get(0));
                case 2:
                    return Long.signum(turnOf(shared.get(0), shared.get(1), other(t, shared)))
                            == -Long.signum(turnOf(shared.get(0), shared.get(1), other(u, shared)));
                default:
                    return false;
            }
        }

        int other(int[] t, List<Integer> shared) {
            for (int p : t) {
                if (!shared.contains(p)) {
                    return p;
                }
            }
            throw new AssertionError("no third corner");
        }

        /** Two convex things without a place in common are parted by a line beside an edge of one. */
        boolean isBeyondAnEdge(int[] t, int[] u) {
            for (int k = 0; k < 3; k++) {
                boolean all = true;
                for (int p : u) {
                    all &= turnOf(t[k], t[(k + 1) % 3], p) < 0;
                }
                if (all) {
                    return true;
                }
            }
            return false;
        }

        /** Near the shared corner, each is an angle: they meet if a leg of one is in the other. */
        boolean haveApartAngles(int[] t, int[] u, int p) {
            int[] first = legs(t, p);
            int[] second = legs(u, p);
            for (int n = 0; n < 2; n++) {
                if (isInAngle(p, first, second[n]) || isInAngle(p, second, first[n])) {
                    return false;
                }
            }
            return true;
        }

        int[] legs(int[] t, int p) {
            for (int k = 0; k < 3; k++) {
                if (t[k] == p) {
                    return new int[] {t[(k + 1) % 3], t[(k + 2) % 3]};
                }
            }
            throw new AssertionError("not a corner");
        }

        boolean isInAngle(int p, int[] legs, int q) {
            return turnOf(p, legs[0], q) >= 0 && turnOf(p, q, legs[1]) >= 0;
        }

        /** The rule for edges is that of a sample moved right by a little, and down by much less. */
        List<Integer> covering(int i, int j) {
            List<Integer> found = new ArrayList<>();
            if (i < 0 || i > 31 || j < 0 || j > 31) {
                return found;
            }
            long little = 4096;
            for (Map.Entry<Integer, int[]> e : triangles.entrySet()) {
                boolean all = isRight(e.getKey());
                for (int k = 0; k < 3 && all; k++) {
                    int p = e.getValue()[k];
                    int q = e.getValue()[(k + 1) % 3];
                    long turn = turnAt(p, q, 16 * i + 8, 16 * j + 8);
                    all = turn * little * little - (ys.get(q) - ys.get(p)) * little - (xs.get(q) - xs.get(p)) > 0;
                }
                if (all) {
                    found.add(e.getKey());
                }
            }
            return found;
        }

        long painted(int what) {
            long[] sums = new long[4];
            for (int i = 0; i < 32; i++) {
                for (int j = 0; j < 32; j++) {
                    int covers = covering(i, j).size();
                    sums[0] += covers > 0 ? 1 : 0;
                    sums[1] += covers > 1 ? 1 : 0;
                    sums[2] += covers;
                }
            }
            for (int[] c : triangles.values()) {
                sums[3] += Math.max(0, turnOf(c[0], c[1], c[2]));
            }
            return what < 0 || what > 3 ? NONE : sums[what];
        }

        int locate(int x, int y) {
            if (!isPlace(x, y)) {
                return NONE;
            }
            for (int t : triangles.keySet()) {
                int[] c = triangles.get(t);
                boolean has = isRight(t);
                for (int k = 0; k < 3; k++) {
                    has &= turnAt(c[k], c[(k + 1) % 3], x, y) >= 0;
                }
                if (has) {
                    return t;
                }
            }
            return NONE;
        }

        int count(int what) {
            Set<Integer> corners = new HashSet<>();
            Set<Set<Integer>> edges = new HashSet<>();
            int lonely = 0;
            int bad = 0;
            for (int t : triangles.keySet()) {
                for (int k = 0; k < 3; k++) {
                    int[] c = triangles.get(t);
                    corners.add(c[k]);
                    edges.add(Set.of(c[k], c[(k + 1) % 3]));
                    lonely += beside(t, k) == NONE ? 1 : 0;
                    bad += isGoodEdge(t, k) ? 0 : 1;
                }
            }
            if (what == 6) {
                return pieces();
            }
            int[] counts = {xs.size(), triangles.size(), came, corners.size(), edges.size(), lonely, NONE, bad};
            return what < 0 || what > 7 ? NONE : counts[what];
        }

        int pieces() {
            Set<Integer> seen = new HashSet<>();
            int pieces = 0;
            for (int start : triangles.keySet()) {
                if (!seen.add(start)) {
                    continue;
                }
                pieces++;
                ArrayDeque<Integer> waiting = new ArrayDeque<>(List.of(start));
                while (!waiting.isEmpty()) {
                    int t = waiting.remove();
                    for (int u : triangles.keySet()) {
                        if ((areLinked(t, u) || areLinked(u, t)) && seen.add(u)) {
                            waiting.add(u);
                        }
                    }
                }
            }
            return pieces;
        }

        boolean areLinked(int t, int u) {
            return beside(t, 0) == u || beside(t, 1) == u || beside(t, 2) == u;
        }
    }
}
