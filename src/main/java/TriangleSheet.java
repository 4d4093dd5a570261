import java.util.Arrays;

/** A sheet of triangles on a plane of pixels; the numbered promises stand in the project's document. */
public final class TriangleSheet {
    public static final int NONE = -1;

    private static final int PLACES = 512;
    private static final int PIXELS = 32;
    private static final int PIXEL_SIDE = 16;
    private static final int MOST_POINTS = 60;
    private static final int MOST_TRIANGLES = 200;
    private static final int MOST_THERE = 60;
    private static final int MOST_IMPROVEMENTS = 500;

    private final Points points;
    private final Triangles triangles;
    // Scratch rows of count(), kept so that no call makes objects.
    private final long[] joinedTo;
    private final int[] pieceOf;
    private int faulty;
    private int faultyWith;

    public TriangleSheet() {
        points = new Points();
        triangles = new Triangles();
        joinedTo = new long[MOST_POINTS];
        pieceOf = new int[MOST_TRIANGLES];
        faulty = NONE;
        faultyWith = NONE;
    }

    public int point(int x, int y) throws IllegalArgumentException, IllegalStateException {
        if (!isPlace(x, y)) {
            throw new IllegalArgumentException("no such place");
        }
        if (!points.canAdd(x, y)) {
            throw new IllegalStateException("a point is there, or all have come");
        }
        return points.add(x, y);
    }

    public void move(int point, int x, int y)
            throws IndexOutOfBoundsException, IllegalArgumentException, IllegalStateException {
        if (!points.isPoint(point)) {
            throw new IndexOutOfBoundsException("no such point");
        }
        if (!isPlace(x, y)) {
            throw new IllegalArgumentException("no such place");
        }
        int present = points.pointAt(x, y);
        if (present != NONE && present != point) {
            throw new IllegalStateException("another point is there");
        }
        points.put(point, x, y);
    }

    public int triangle(int a, int b, int c)
            throws IndexOutOfBoundsException, IllegalArgumentException, IllegalStateException {
        if (!points.isPoint(a) || !points.isPoint(b) || !points.isPoint(c)) {
            throw new IndexOutOfBoundsException("no such points");
        }
        if (a == b || b == c || c == a) {
            throw new IllegalArgumentException("two points are one");
        }
        if (!triangles.canAdd(1)) {
            throw new IllegalStateException("no more triangles can be");
        }
        return triangles.add(a, b, c);
    }

    public void take(int triangle) throws IndexOutOfBoundsException {
        if (!triangles.isThere(triangle)) {
            throw new IndexOutOfBoundsException("no such triangle");
        }
        triangles.remove(triangle);
    }

    public int part(int triangle, int x, int y)
            throws IndexOutOfBoundsException, IllegalArgumentException, IllegalStateException {
        if (!triangles.isThere(triangle)) {
            throw new IndexOutOfBoundsException("no such triangle");
        }
        if (!isPlace(x, y) || !isWithin(triangle, x, y)) {
            throw new IllegalArgumentException("not a place within the triangle");
        }
        if (!points.canAdd(x, y) || !triangles.canAdd(2)) {
            throw new IllegalStateException("a point is there, or no more can be");
        }
        int a = triangles.cornerOf(triangle, 0);
        int b = triangles.cornerOf(triangle, 1);
        int c = triangles.cornerOf(triangle, 2);
        int p = points.add(x, y);
        triangles.put(triangle, a, b, p);
        triangles.add(b, c, p);
        triangles.add(c, a, p);
        return p;
    }

    public boolean turn(int triangle, int k) throws IndexOutOfBoundsException {
        if (!isEdge(triangle, k)) {
            throw new IndexOutOfBoundsException("no such edge");
        }
        return turnEdge(triangle, k);
    }

    public int improve(int n) throws IllegalArgumentException {
        if (n < 0 || n > MOST_IMPROVEMENTS) {
            throw new IllegalArgumentException("not 0 to 500 times");
        }
        int times = 0;
        while (times < n && turnFirstBadEdge()) {
            times++;
        }
        return times;
    }

    public int fault() {
        for (int i = 0; i < triangles.thereCount(); i++) {
            int t = triangles.numberAt(i);
            if (!isRight(t)) {
                rememberCulprits(t, NONE);
                return 1;
            }
            int u = firstUntidyBefore(i);
            if (u != NONE) {
                rememberCulprits(t, u);
                return 2;
            }
        }
        return 0;
    }

    public int culprit(int which) {
        switch (which) {
            case 0:
                return faulty;
            case 1:
                return faultyWith;
            default:
                return NONE;
        }
    }

    public int covers(int i, int j) {
        if (!isPixel(i, j)) {
            return 0;
        }
        int covering = 0;
        for (int n = 0; n < triangles.thereCount(); n++) {
            if (coversPixel(triangles.numberAt(n), i, j)) {
                covering++;
            }
        }
        return covering;
    }

    public int who(int i, int j) {
        if (!isPixel(i, j)) {
            return NONE;
        }
        for (int n = 0; n < triangles.thereCount(); n++) {
            int t = triangles.numberAt(n);
            if (coversPixel(t, i, j)) {
                return t;
            }
        }
        return NONE;
    }

    public long painted(int what) {
        switch (what) {
            case 0:
            case 1:
            case 2:
                return paintedPixels(what);
            case 3:
                return sumOfTurns();
            default:
                return NONE;
        }
    }

    public int locate(int x, int y) {
        if (!isPlace(x, y)) {
            return NONE;
        }
        for (int i = 0; i < triangles.thereCount(); i++) {
            int t = triangles.numberAt(i);
            if (isRight(t) && hasPlace(t, x, y)) {
                return t;
            }
        }
        return NONE;
    }

    public int beside(int triangle, int k) {
        return isEdge(triangle, k) ? triangles.neighbour(triangle, k) : NONE;
    }

    public boolean isGood(int triangle, int k) {
        return isEdge(triangle, k) && isGoodEdge(triangle, k);
    }

    public int corner(int triangle, int k) {
        return isEdge(triangle, k) ? triangles.cornerOf(triangle, k) : NONE;
    }

    public int count(int what) {
        switch (what) {
            case 0:
                return points.came();
            case 1:
                return triangles.thereCount();
            case 2:
                return triangles.came();
            case 3:
                return countCornerPoints();
            case 4:
                return countDifferentEdges();
            case 5:
                return countLonelyEdges();
            case 6:
                return countPieces();
            case 7:
                return countBadEdges();
            default:
                return NONE;
        }
    }

    private static boolean isPlace(int x, int y) {
        return x >= 0 && x < PLACES && y >= 0 && y < PLACES;
    }

    private static boolean isPixel(int i, int j) {
        return i >= 0 && i < PIXELS && j >= 0 && j < PIXELS;
    }

    private static int sampleOf(int pixel) {
        return PIXEL_SIDE * pixel + PIXEL_SIDE / 2;
    }

    /** Also whether there is a corner k: a triangle has one for each edge. */
    private boolean isEdge(int t, int k) {
        return k >= 0 && k < 3 && triangles.isThere(t);
    }

    private int turnOf(int t) {
        return points.turnOf(triangles.cornerOf(t, 0), triangles.cornerOf(t, 1), triangles.cornerOf(t, 2));
    }

    private boolean isRight(int t) {
        return turnOf(t) > 0;
    }

    private int turnBesideEdge(int t, int k, int x, int y) {
        return points.turnAt(triangles.cornerOf(t, k), triangles.cornerOf(t, k + 1), x, y);
    }

    private boolean hasPlace(int t, int x, int y) {
        for (int k = 0; k < 3; k++) {
            if (turnBesideEdge(t, k, x, y) < 0) {
                return false;
            }
        }
        return true;
    }

    private boolean isWithin(int t, int x, int y) {
        for (int k = 0; k < 3; k++) {
            if (turnBesideEdge(t, k, x, y) <= 0) {
                return false;
            }
        }
        return true;
    }

    // What is painted.

    private boolean coversPixel(int t, int i, int j) {
        return isRight(t) && liesInsideOrOnOwnEdges(t, sampleOf(i), sampleOf(j));
    }

    private boolean liesInsideOrOnOwnEdges(int t, int x, int y) {
        for (int k = 0; k < 3; k++) {
            int turn = turnBesideEdge(t, k, x, y);
            if (turn < 0 || turn == 0 && !ownsEdge(t, k)) {
                return false;
            }
        }
        return true;
    }

    /** Of two triangles at one edge, just one owns it, so a sample on it is covered once. */
    private boolean ownsEdge(int t, int k) {
        int p = triangles.cornerOf(t, k);
        int q = triangles.cornerOf(t, k + 1);
        return points.y(q) < points.y(p) || points.y(q) == points.y(p) && points.x(q) < points.x(p);
    }

    private long paintedPixels(int what) {
        long sum = 0;
        for (int j = 0; j < PIXELS; j++) {
            sum += paintedInRow(j, what);
        }
        return sum;
    }

    private int paintedInRow(int j, int what) {
        int covered = 0;
        int coveredAgain = 0;
        int sum = 0;
        for (int n = 0; n < triangles.thereCount(); n++) {
            int bits = coveredBits(triangles.numberAt(n), j);
            coveredAgain |= covered & bits;
            covered |= bits;
            sum += Integer.bitCount(bits);
        }
        switch (what) {
            case 0:
                return Integer.bitCount(covered);
            case 1:
                return Integer.bitCount(coveredAgain);
            default:
                return sum;
        }
    }

    /** The pixels of row j that t covers, a bit each: a row has as many pixels as an int has bits. */
    private int coveredBits(int t, int j) {
        if (j < lowest(t) / PIXEL_SIDE || j > highest(t) / PIXEL_SIDE || !isRight(t)) {
            return 0;
        }
        int bits = 0;
        int last = rightmost(t) / PIXEL_SIDE;
        for (int i = leftmost(t) / PIXEL_SIDE; i <= last; i++) {
            if (liesInsideOrOnOwnEdges(t, sampleOf(i), sampleOf(j))) {
                bits |= 1 << i;
            }
        }
        return bits;
    }

    private long sumOfTurns() {
        long sum = 0;
        for (int i = 0; i < triangles.thereCount(); i++) {
            sum += Math.max(0, turnOf(triangles.numberAt(i)));
        }
        return sum;
    }

    private int leftmost(int t) {
        return Math.min(cornerX(t, 0), Math.min(cornerX(t, 1), cornerX(t, 2)));
    }

    private int rightmost(int t) {
        return Math.max(cornerX(t, 0), Math.max(cornerX(t, 1), cornerX(t, 2)));
    }

    private int lowest(int t) {
        return Math.min(cornerY(t, 0), Math.min(cornerY(t, 1), cornerY(t, 2)));
    }

    private int highest(int t) {
        return Math.max(cornerY(t, 0), Math.max(cornerY(t, 1), cornerY(t, 2)));
    }

    private int cornerX(int t, int k) {
        return points.x(triangles.cornerOf(t, k));
    }

    private int cornerY(int t, int k) {
        return points.y(triangles.cornerOf(t, k));
    }

    // Whether the sheet is sound.

    private void rememberCulprits(int t, int u) {
        faulty = t;
        faultyWith = u;
    }

    private int firstUntidyBefore(int index) {
        int t = triangles.numberAt(index);
        for (int i = 0; i < index; i++) {
            int u = triangles.numberAt(i);
            if (!areTidy(t, u)) {
                return u;
            }
        }
        return NONE;
    }

    /**
     * What lies in both is convex, and each of its corners is a corner of one that the other has, or a place
     * where two edges cross. If there are none of these but shared corners, and not three of them, what lies
     * in both is nothing, one shared corner, or the edge between two.
     */
    private boolean areTidy(int t, int u) {
        if (areFarApart(t, u)) {
            return true;
        }
        return !haveSameCorners(t, u) && !reachesInto(t, u) && !reachesInto(u, t) && !crossesAnEdgeOf(t, u);
    }

    /** Decides most pairs at once; the rest of areTidy would answer the same. */
    private boolean areFarApart(int t, int u) {
        return rightmost(t) < leftmost(u) || rightmost(u) < leftmost(t)
                || highest(t) < lowest(u) || highest(u) < lowest(t);
    }

    private boolean haveSameCorners(int t, int u) {
        for (int k = 0; k < 3; k++) {
            if (!triangles.hasCorner(u, triangles.cornerOf(t, k))) {
                return false;
            }
        }
        return true;
    }

    private boolean reachesInto(int t, int u) {
        for (int k = 0; k < 3; k++) {
            int p = triangles.cornerOf(t, k);
            if (!triangles.hasCorner(u, p) && hasPlace(u, points.x(p), points.y(p))) {
                return true;
            }
        }
        return false;
    }

    private boolean crossesAnEdgeOf(int t, int u) {
        for (int k = 0; k < 3; k++) {
            for (int m = 0; m < 3; m++) {
                if (points.isCrossing(triangles.cornerOf(t, k), triangles.cornerOf(t, k + 1),
                        triangles.cornerOf(u, m), triangles.cornerOf(u, m + 1))) {
                    return true;
                }
            }
        }
        return false;
    }

    // Edges turned.

    private boolean isGoodEdge(int t, int k) {
        int u = triangles.neighbour(t, k);
        if (u == NONE) {
            return true;
        }
        int a = triangles.cornerOf(t, k);
        int b = triangles.cornerOf(t, k + 1);
        int c = triangles.cornerOf(t, k + 2);
        return points.circleSide(a, b, c, triangles.thirdCorner(u, a, b)) <= 0;
    }

    private boolean turnEdge(int t, int k) {
        int u = triangles.neighbour(t, k);
        if (u == NONE) {
            return false;
        }
        int a = triangles.cornerOf(t, k);
        int b = triangles.cornerOf(t, k + 1);
        int c = triangles.cornerOf(t, k + 2);
        int d = triangles.thirdCorner(u, a, b);
        if (points.turnOf(a, d, c) <= 0 || points.turnOf(d, b, c) <= 0) {
            return false;
        }
        triangles.put(t, c, a, d);
        triangles.put(u, d, b, c);
        return true;
    }

    private boolean turnFirstBadEdge() {
        for (int i = 0; i < triangles.thereCount(); i++) {
            int t = triangles.numberAt(i);
            for (int k = 0; k < 3; k++) {
                if (!isGoodEdge(t, k) && turnEdge(t, k)) {
                    return true;
                }
            }
        }
        return false;
    }

    // What is counted.

    private int countCornerPoints() {
        long corners = 0;
        for (int i = 0; i < triangles.thereCount(); i++) {
            int t = triangles.numberAt(i);
            for (int k = 0; k < 3; k++) {
                corners |= bitOf(triangles.cornerOf(t, k));
            }
        }
        return Long.bitCount(corners);
    }

    private int countDifferentEdges() {
        Arrays.fill(joinedTo, 0L);
        for (int i = 0; i < triangles.thereCount(); i++) {
            int t = triangles.numberAt(i);
            for (int k = 0; k < 3; k++) {
                int p = triangles.cornerOf(t, k);
                int q = triangles.cornerOf(t, k + 1);
                joinedTo[Math.min(p, q)] |= bitOf(Math.max(p, q));
            }
        }
        int edges = 0;
        for (int p = 0; p < MOST_POINTS; p++) {
            edges += Long.bitCount(joinedTo[p]);
        }
        return edges;
    }

    /** There are fewer points than a long has bits. */
    private static long bitOf(int p) {
        return 1L << p;
    }

    private int countLonelyEdges() {
        int edges = 0;
        for (int i = 0; i < triangles.thereCount(); i++) {
            for (int k = 0; k < 3; k++) {
                if (triangles.neighbour(triangles.numberAt(i), k) == NONE) {
                    edges++;
                }
            }
        }
        return edges;
    }

    private int countBadEdges() {
        int edges = 0;
        for (int i = 0; i < triangles.thereCount(); i++) {
            for (int k = 0; k < 3; k++) {
                if (!isGoodEdge(triangles.numberAt(i), k)) {
                    edges++;
                }
            }
        }
        return edges;
    }

    private int countPieces() {
        for (int i = 0; i < triangles.thereCount(); i++) {
            int t = triangles.numberAt(i);
            pieceOf[t] = t;
        }
        int pieces = triangles.thereCount();
        for (int i = 0; i < triangles.thereCount(); i++) {
            int t = triangles.numberAt(i);
            for (int k = 0; k < 3; k++) {
                int u = triangles.neighbour(t, k);
                if (u != NONE && pieceOf[u] != pieceOf[t]) {
                    renamePiece(pieceOf[u], pieceOf[t]);
                    pieces--;
                }
            }
        }
        return pieces;
    }

    private void renamePiece(int from, int to) {
        for (int i = 0; i < triangles.thereCount(); i++) {
            int t = triangles.numberAt(i);
            if (pieceOf[t] == from) {
                pieceOf[t] = to;
            }
        }
    }

    /** The points and what can be said of their places alone. */
    private static final class Points {
        private final int[] xs;
        private final int[] ys;
        private int came;

        Points() {
            xs = new int[MOST_POINTS];
            ys = new int[MOST_POINTS];
            came = 0;
        }

        int came() {
            return came;
        }

        boolean isPoint(int p) {
            return p >= 0 && p < came;
        }

        int x(int p) {
            return xs[p];
        }

        int y(int p) {
            return ys[p];
        }

        int pointAt(int x, int y) {
            for (int p = 0; p < came; p++) {
                if (xs[p] == x && ys[p] == y) {
                    return p;
                }
            }
            return NONE;
        }

        boolean canAdd(int x, int y) {
            return came < MOST_POINTS && pointAt(x, y) == NONE;
        }

        int add(int x, int y) {
            int p = came;
            came++;
            put(p, x, y);
            return p;
        }

        void put(int p, int x, int y) {
            xs[p] = x;
            ys[p] = y;
        }

        int turnAt(int p, int q, int x, int y) {
            return (xs[q] - xs[p]) * (y - ys[p]) - (ys[q] - ys[p]) * (x - xs[p]);
        }

        int turnOf(int p, int q, int r) {
            return turnAt(p, q, xs[r], ys[r]);
        }

        /** Whether the lines from p to q and from r to s cross at a place that is an end of neither. */
        boolean isCrossing(int p, int q, int r, int s) {
            return areOpposite(turnOf(p, q, r), turnOf(p, q, s)) && areOpposite(turnOf(r, s, p), turnOf(r, s, q));
        }

        private static boolean areOpposite(int one, int other) {
            return one < 0 && other > 0 || one > 0 && other < 0;
        }

        /** The document's determinant, above 0 if d is within the circle; it outgrows an int. */
        long circleSide(int a, int b, int c, int d) {
            long ax = xs[a] - xs[d];
            long ay = ys[a] - ys[d];
            long bx = xs[b] - xs[d];
            long by = ys[b] - ys[d];
            long cx = xs[c] - xs[d];
            long cy = ys[c] - ys[d];
            return (ax * ax + ay * ay) * (bx * cy - by * cx)
                    + (bx * bx + by * by) * (cx * ay - cy * ax)
                    + (cx * cx + cy * cy) * (ax * by - ay * bx);
        }
    }

    /** The triangles, which of them are there, and what can be said by their corners' points alone. */
    private static final class Triangles {
        private final int[] corners;
        // Ascending, so that the least of several triangles is the first one found.
        private final int[] there;
        private int thereCount;
        private int came;

        Triangles() {
            corners = new int[3 * MOST_TRIANGLES];
            there = new int[MOST_THERE];
            thereCount = 0;
            came = 0;
        }

        int came() {
            return came;
        }

        int thereCount() {
            return thereCount;
        }

        int numberAt(int index) {
            return there[index];
        }

        boolean isThere(int t) {
            for (int i = 0; i < thereCount; i++) {
                if (there[i] == t) {
                    return true;
                }
            }
            return false;
        }

        boolean canAdd(int more) {
            return thereCount + more <= MOST_THERE && came + more <= MOST_TRIANGLES;
        }

        int add(int a, int b, int c) {
            int t = came;
            came++;
            put(t, a, b, c);
            there[thereCount] = t;
            thereCount++;
            return t;
        }

        void put(int t, int a, int b, int c) {
            corners[3 * t] = a;
            corners[3 * t + 1] = b;
            corners[3 * t + 2] = c;
        }

        void remove(int t) {
            int kept = 0;
            for (int i = 0; i < thereCount; i++) {
                if (there[i] != t) {
                    there[kept] = there[i];
                    kept++;
                }
            }
            thereCount = kept;
        }

        /** Goes round: corner 3 is corner 0 again. */
        int cornerOf(int t, int k) {
            return corners[3 * t + k % 3];
        }

        boolean hasCorner(int t, int p) {
            return corners[3 * t] == p || corners[3 * t + 1] == p || corners[3 * t + 2] == p;
        }

        /** The corner of t beside a and b, which are two of its three: what they leave of the sum. */
        int thirdCorner(int t, int a, int b) {
            return corners[3 * t] + corners[3 * t + 1] + corners[3 * t + 2] - a - b;
        }

        private boolean hasEdge(int t, int from, int to) {
            int a = corners[3 * t];
            int b = corners[3 * t + 1];
            int c = corners[3 * t + 2];
            return a == from && b == to || b == from && c == to || c == from && a == to;
        }

        /** A triangle never has its own edge the other way round, so what is found is another one. */
        int neighbour(int t, int k) {
            int from = cornerOf(t, k);
            int to = cornerOf(t, k + 1);
            for (int i = 0; i < thereCount; i++) {
                if (hasEdge(there[i], to, from)) {
                    return there[i];
                }
            }
            return NONE;
        }
    }
}
