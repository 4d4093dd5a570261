/** Every promise of the document, by its number: ordinary inputs, the edges that it names, and wrong inputs. */
public final class PromisesTest {
    private static final Class<?> INDEX = IndexOutOfBoundsException.class;
    private static final Class<?> ARGUMENT = IllegalArgumentException.class;
    private static final Class<?> STATE = IllegalStateException.class;
    private static final int NONE = TriangleSheet.NONE;
    private static final int LEAST = Integer.MIN_VALUE;
    private static final int MOST = Integer.MAX_VALUE;

    private static int checks = 0;
    private static int wrong = 0;

    private interface Call {
        void run();
    }

    public static void main(String[] args) {
        newObject();
        point();
        move();
        triangle();
        take();
        part();
        partBeyondTheLimits();
        turn();
        turnThatCannotBe();
        turnOfCrookedTriangles();
        improve();
        improveTheFirstEdge();
        improveAgainAndAgain();
        faultOrder();
        faultOfPairs();
        smallestTriangles();
        culprit();
        coversAndWho();
        coversEachEdgeOnce();
        painted();
        locate();
        beside();
        isGood();
        corner();
        count();
        countOfPieces();
        refusedCallsChangeNothing();
        fullSheet();
        System.out.println(checks - wrong + " of " + checks + " answers are as due");
        if (wrong != 0) {
            System.exit(1);
        }
    }

    private static void due(String call, long want, long got) {
        checks++;
        if (got != want) {
            wrong++;
            System.out.println(call + " answered " + got + ", due is " + want);
        }
    }

    private static void due(String call, boolean want, boolean got) {
        due(call, want ? 1 : 0, got ? 1 : 0);
    }

    private static void dueThrow(String call, Class<?> want, Call todo) {
        checks++;
        String got = "nothing";
        try {
            todo.run();
        } catch (RuntimeException e) {
            if (e.getClass() == want) {
                return;
            }
            got = e.getClass().getSimpleName();
        }
        wrong++;
        System.out.println(call + " threw " + got + ", due is " + want.getSimpleName());
    }

    private static void dueCorners(String call, TriangleSheet s, int t, int a, int b, int c) {
        due(call + ", corner 0 of " + t, a, s.corner(t, 0));
        due(call + ", corner 1 of " + t, b, s.corner(t, 1));
        due(call + ", corner 2 of " + t, c, s.corner(t, 2));
    }

    private static TriangleSheet withPoints(int... places) {
        TriangleSheet s = new TriangleSheet();
        for (int i = 0; i < places.length; i += 2) {
            s.point(places[i], places[i + 1]);
        }
        return s;
    }

    /** Triangles 0: 0, 1, 2 and 1: 0, 2, 3 of a square. */
    private static TriangleSheet square(int low, int high) {
        TriangleSheet s = withPoints(low, low, high, low, high, high, low, high);
        s.triangle(0, 1, 2);
        s.triangle(0, 2, 3);
        return s;
    }

    private static TriangleSheet withManyPoints(int many) {
        TriangleSheet s = new TriangleSheet();
        for (int i = 0; i < many; i++) {
            due("point " + i, i, s.point(i % 10 * 50 + i / 10, i / 10 * 80));
        }
        return s;
    }

    private static void newObject() {
        TriangleSheet s = new TriangleSheet();
        due("NONE", -1, NONE);
        for (int what = 0; what < 8; what++) {
            due("count(" + what + ") of a new sheet", 0, s.count(what));
        }
        for (int what = 0; what < 4; what++) {
            due("painted(" + what + ") of a new sheet", 0, s.painted(what));
        }
        due("fault() of a new sheet", 0, s.fault());
        due("culprit(0) of a new sheet", NONE, s.culprit(0));
        due("culprit(1) of a new sheet", NONE, s.culprit(1));
        due("covers(0, 0) of a new sheet", 0, s.covers(0, 0));
        due("who(0, 0) of a new sheet", NONE, s.who(0, 0));
        due("locate(0, 0) of a new sheet", NONE, s.locate(0, 0));
        due("corner(0, 0) of a new sheet", NONE, s.corner(0, 0));
        due("beside(0, 0) of a new sheet", NONE, s.beside(0, 0));
        due("isGood(0, 0) of a new sheet", false, s.isGood(0, 0));
        due("improve(500) of a new sheet", 0, s.improve(500));
    }

    private static void point() {
        TriangleSheet s = new TriangleSheet();
        due("point(0, 0)", 0, s.point(0, 0));
        due("point(511, 511)", 1, s.point(511, 511));
        due("point(0, 511)", 2, s.point(0, 511));
        due("point(511, 0)", 3, s.point(511, 0));
        int[] off = {-1, 512, LEAST, MOST};
        for (int x : off) {
            dueThrow("point(" + x + ", 5)", ARGUMENT, () -> s.point(x, 5));
            dueThrow("point(5, " + x + ")", ARGUMENT, () -> s.point(5, x));
        }
        dueThrow("point where one is", STATE, () -> s.point(0, 511));
        due("count(0) after refusals", 4, s.count(0));
        due("the next point", 4, s.point(0, 510));

        TriangleSheet full = withManyPoints(60);
        dueThrow("point 60", STATE, () -> full.point(511, 511));
        dueThrow("point 60 at no place", ARGUMENT, () -> full.point(512, 511));
        due("count(0) of a full sheet", 60, full.count(0));
    }

    private static void move() {
        TriangleSheet s = withPoints(0, 0, 100, 0, 0, 100);
        s.triangle(0, 1, 2);
        s.move(1, 511, 0);
        due("painted(3) after move", 51100, s.painted(3));
        s.move(1, 511, 0);
        due("painted(3) after a move to its own place", 51100, s.painted(3));
        due("the left place is free", 3, s.point(100, 0));
        dueThrow("move where another is", STATE, () -> s.move(1, 100, 0));
        dueThrow("move to where it was of another", STATE, () -> s.move(3, 511, 0));
        dueThrow("move(4, ..)", INDEX, () -> s.move(4, 1, 1));
        dueThrow("move(-1, ..)", INDEX, () -> s.move(-1, 1, 1));
        dueThrow("move(most, ..) to no place", INDEX, () -> s.move(MOST, 512, 1));
        dueThrow("move(4, ..) where one is", INDEX, () -> s.move(4, 0, 0));
        int[] off = {-1, 512, LEAST, MOST};
        for (int x : off) {
            dueThrow("move(0, " + x + ", 5)", ARGUMENT, () -> s.move(0, x, 5));
            dueThrow("move(0, 5, " + x + ")", ARGUMENT, () -> s.move(0, 5, x));
        }
        due("painted(3) after refusals", 51100, s.painted(3));
        s.move(1, 0, 50);
        due("fault() after a move that flattens", 1, s.fault());
    }

    private static void triangle() {
        TriangleSheet s = withPoints(0, 0, 100, 0, 0, 100, 200, 0);
        due("triangle(0, 1, 2)", 0, s.triangle(0, 1, 2));
        due("triangle(2, 1, 0), which is not right", 1, s.triangle(2, 1, 0));
        due("triangle(0, 1, 3), which is flat", 2, s.triangle(0, 1, 3));
        due("triangle(0, 1, 2) again", 3, s.triangle(0, 1, 2));
        dueCorners("triangle(2, 1, 0)", s, 1, 2, 1, 0);
        int[] off = {-1, 4, 60, LEAST, MOST};
        for (int p : off) {
            dueThrow("triangle(" + p + ", 1, 2)", INDEX, () -> s.triangle(p, 1, 2));
            dueThrow("triangle(0, " + p + ", 2)", INDEX, () -> s.triangle(0, p, 2));
            dueThrow("triangle(0, 1, " + p + ")", INDEX, () -> s.triangle(0, 1, p));
            dueThrow("triangle of one " + p + " thrice", INDEX, () -> s.triangle(p, p, p));
        }
        dueThrow("triangle(1, 1, 2)", ARGUMENT, () -> s.triangle(1, 1, 2));
        dueThrow("triangle(1, 2, 1)", ARGUMENT, () -> s.triangle(1, 2, 1));
        dueThrow("triangle(2, 1, 1)", ARGUMENT, () -> s.triangle(2, 1, 1));
        due("count(2) after refusals", 4, s.count(2));

        TriangleSheet full = withPoints(0, 0, 100, 0, 0, 100);
        for (int t = 0; t < 60; t++) {
            due("triangle " + t, t, full.triangle(0, 1, 2));
        }
        dueThrow("a 61st triangle there", STATE, () -> full.triangle(0, 1, 2));
        dueThrow("a 61st triangle there, two points one", ARGUMENT, () -> full.triangle(0, 0, 2));
        dueThrow("a 61st triangle there, no such point", INDEX, () -> full.triangle(0, 1, 3));
        due("count(1) of a full sheet", 60, full.count(1));
        for (int t = 60; t < 200; t++) {
            full.take(t - 60);
            due("triangle " + t, t, full.triangle(0, 1, 2));
        }
        full.take(199);
        dueThrow("a 201st triangle", STATE, () -> full.triangle(0, 1, 2));
        due("count(1) at the end", 59, full.count(1));
        due("count(2) at the end", 200, full.count(2));
        due("the least of them", 140, full.locate(1, 1));
        due("covers of them all", 59, full.covers(0, 0));
    }

    private static void take() {
        TriangleSheet s = square(0, 64);
        dueThrow("take(2)", INDEX, () -> s.take(2));
        dueThrow("take(-1)", INDEX, () -> s.take(-1));
        dueThrow("take(least)", INDEX, () -> s.take(LEAST));
        dueThrow("take(most)", INDEX, () -> s.take(MOST));
        s.take(0);
        dueThrow("take(0) again", INDEX, () -> s.take(0));
        due("count(1) after take", 1, s.count(1));
        due("count(2) after take", 2, s.count(2));
        due("corner of what is gone", NONE, s.corner(0, 0));
        due("beside what is left", NONE, s.beside(1, 0));
        due("painted(2) after take", 6, s.painted(2));
        due("numbers go on", 2, s.triangle(0, 1, 2));
        due("beside after take and triangle", 2, s.beside(1, 0));
    }

    private static void part() {
        TriangleSheet s = square(0, 64);
        due("part(1, 20, 40)", 4, s.part(1, 20, 40));
        dueCorners("part", s, 0, 0, 1, 2);
        dueCorners("part", s, 1, 0, 2, 4);
        dueCorners("part", s, 2, 2, 3, 4);
        dueCorners("part", s, 3, 3, 0, 4);
        due("fault() after part", 0, s.fault());
        due("painted(3) after part", 8192, s.painted(3));
        due("count(0) after part", 5, s.count(0));
        dueThrow("part(4, ..)", INDEX, () -> s.part(4, 20, 10));
        dueThrow("part(-1, ..) at no place", INDEX, () -> s.part(-1, -1, 10));
        dueThrow("part on an edge", ARGUMENT, () -> s.part(0, 20, 0));
        dueThrow("part on the next edge", ARGUMENT, () -> s.part(0, 64, 20));
        dueThrow("part on the last edge", ARGUMENT, () -> s.part(0, 20, 20));
        dueThrow("part at a corner", ARGUMENT, () -> s.part(0, 64, 64));
        dueThrow("part outside", ARGUMENT, () -> s.part(0, 20, 40));
        int[] off = {-1, 512, LEAST, MOST};
        for (int x : off) {
            dueThrow("part(0, " + x + ", 5)", ARGUMENT, () -> s.part(0, x, 5));
            dueThrow("part(0, 5, " + x + ")", ARGUMENT, () -> s.part(0, 5, x));
        }
        due("count(2) after refusals", 4, s.count(2));

        TriangleSheet crooked = withPoints(0, 0, 64, 0, 0, 64);
        crooked.triangle(0, 2, 1);
        dueThrow("part of what is not right", ARGUMENT, () -> crooked.part(0, 20, 20));
    }

    private static void partBeyondTheLimits() {
        TriangleSheet taken = withPoints(0, 0, 64, 0, 0, 64, 20, 20);
        taken.triangle(0, 1, 2);
        dueThrow("part where a point is", STATE, () -> taken.part(0, 20, 20));
        due("part beside that point", 4, taken.part(0, 21, 20));

        TriangleSheet points = withManyPoints(59);
        points.triangle(0, 9, 50);
        due("part with the last point", 59, points.part(0, 77, 77));
        dueThrow("part with a 61st point", STATE, () -> points.part(0, 77, 10));
        dueThrow("part outside with a 61st point", ARGUMENT, () -> points.part(0, 500, 500));

        TriangleSheet there = withPoints(0, 0, 300, 0, 0, 300);
        for (int t = 0; t < 58; t++) {
            there.triangle(0, 1, 2);
        }
        due("part with 58 there", 3, there.part(0, 10, 20));
        due("count(1) then", 60, there.count(1));
        dueThrow("part with 60 there", STATE, () -> there.part(1, 20, 10));
        there.take(59);
        dueThrow("part with 59 there", STATE, () -> there.part(1, 20, 10));
        dueThrow("part at an edge with 59 there", ARGUMENT, () -> there.part(1, 0, 10));
        due("count(0) after refusals", 4, there.count(0));

        TriangleSheet came = withPoints(0, 0, 300, 0, 0, 300);
        for (int t = 0; t < 198; t++) {
            came.triangle(0, 1, 2);
            if (t > 0) {
                came.take(t);
            }
        }
        due("part with 198 come", 3, came.part(0, 10, 20));
        due("count(2) then", 200, came.count(2));
        dueThrow("part with 200 come", STATE, () -> came.part(199, 5, 12));

        TriangleSheet odd = withPoints(0, 0, 300, 0, 0, 300);
        for (int t = 0; t < 199; t++) {
            odd.triangle(0, 1, 2);
            if (t > 0) {
                odd.take(t);
            }
        }
        dueThrow("part with 199 come", STATE, () -> odd.part(0, 10, 20));
        due("count(0) then", 3, odd.count(0));
    }

    private static void turn() {
        for (int k = 0; k < 3; k++) {
            for (int m = 0; m < 3; m++) {
                int[] t = {0, 1, 2, 0, 1};
                int[] u = {0, 2, 3, 0, 2};
                TriangleSheet s = withPoints(0, 0, 64, 0, 64, 64, 0, 64);
                s.triangle(t[k], t[k + 1], t[k + 2]);
                s.triangle(u[m], u[m + 1], u[m + 2]);
                due("turn of edge " + (2 - k), true, s.turn(0, 2 - k));
                dueCorners("turn of edge " + (2 - k), s, 0, 1, 2, 3);
                dueCorners("turn of edge " + (2 - k), s, 1, 3, 0, 1);
                due("fault() after turn", 0, s.fault());
            }
        }
        TriangleSheet back = square(0, 64);
        due("turn by the other triangle", true, back.turn(1, 0));
        dueCorners("turn by the other triangle", back, 1, 3, 0, 1);
        dueCorners("turn by the other triangle", back, 0, 1, 2, 3);
        due("turn of the new edge", true, back.turn(1, 2));
        dueCorners("turn of the new edge", back, 1, 0, 1, 2);
        dueCorners("turn of the new edge", back, 0, 2, 3, 0);
        dueThrow("turn(2, 0)", INDEX, () -> back.turn(2, 0));
        dueThrow("turn(-1, 0)", INDEX, () -> back.turn(-1, 0));
        dueThrow("turn(0, 3)", INDEX, () -> back.turn(0, 3));
        dueThrow("turn(0, -1)", INDEX, () -> back.turn(0, -1));
        dueThrow("turn(0, most)", INDEX, () -> back.turn(0, MOST));
        dueThrow("turn(0, least)", INDEX, () -> back.turn(0, LEAST));
        back.take(0);
        dueThrow("turn of what is gone", INDEX, () -> back.turn(0, 0));
    }

    private static void turnThatCannotBe() {
        TriangleSheet s = square(0, 64);
        due("turn without a neighbour", false, s.turn(0, 0));
        dueCorners("turn without a neighbour", s, 0, 0, 1, 2);

        TriangleSheet dart = withPoints(0, 0, 100, 0, 20, 20, 0, 100);
        dart.triangle(0, 1, 2);
        dart.triangle(0, 2, 3);
        due("turn in a dart", false, dart.turn(0, 2));
        dueCorners("turn in a dart", dart, 0, 0, 1, 2);
        dueCorners("turn in a dart", dart, 1, 0, 2, 3);

        TriangleSheet flat = withPoints(0, 0, 100, 0, 50, 50, 0, 100);
        flat.triangle(0, 1, 2);
        flat.triangle(0, 2, 3);
        due("turn that makes a flat one", false, flat.turn(0, 2));

        TriangleSheet flatToo = withPoints(0, 0, 50, 50, 0, 100, 100, 0);
        flatToo.triangle(0, 1, 2);
        flatToo.triangle(1, 0, 3);
        due("turn that makes the other one flat", false, flatToo.turn(0, 0));

        TriangleSheet same = withPoints(0, 0, 100, 0, 0, 100);
        same.triangle(0, 1, 2);
        same.triangle(1, 0, 2);
        due("turn with its own mirror", false, same.turn(0, 0));
        due("its own mirror is good", true, same.isGood(0, 0));
    }

    private static void turnOfCrookedTriangles() {
        // Triangle 0 is not right; the two that come of the turn are, and nothing else is asked.
        TriangleSheet s = withPoints(100, 0, 0, 0, 50, 30, 50, 100);
        s.triangle(0, 1, 2);
        s.triangle(1, 0, 3);
        due("fault() before", 1, s.fault());
        due("turn of a crooked one", true, s.turn(0, 0));
        dueCorners("turn of a crooked one", s, 0, 2, 0, 3);
        dueCorners("turn of a crooked one", s, 1, 3, 1, 2);
        due("fault() after", 0, s.fault());

        TriangleSheet bad = withPoints(100, 0, 0, 0, 50, 30, 50, 100);
        bad.triangle(0, 1, 2);
        bad.triangle(1, 0, 3);
        due("improve of a crooked one", 1, bad.improve(1));
        dueCorners("improve of a crooked one", bad, 0, 2, 0, 3);
    }

    private static void improve() {
        TriangleSheet s = withPoints(0, 0, 100, 10, 200, 0, 100, 20);
        s.triangle(0, 1, 2);
        s.triangle(2, 3, 0);
        due("it is not yet right", 1, s.fault());
        s.move(1, 100, 0);
        s.move(0, 0, 5);
        s.move(2, 200, 5);
        due("count(7) before", 2, s.count(7));
        due("improve(0)", 0, s.improve(0));
        due("count(7) after improve(0)", 2, s.count(7));
        due("improve(500)", 1, s.improve(500));
        dueCorners("improve", s, 0, 1, 2, 3);
        dueCorners("improve", s, 1, 3, 0, 1);
        due("count(7) after", 0, s.count(7));
        due("improve(1) again", 0, s.improve(1));
        dueThrow("improve(-1)", ARGUMENT, () -> s.improve(-1));
        dueThrow("improve(501)", ARGUMENT, () -> s.improve(501));
        dueThrow("improve(least)", ARGUMENT, () -> s.improve(LEAST));
        dueThrow("improve(most)", ARGUMENT, () -> s.improve(MOST));

        TriangleSheet round = square(0, 64);
        due("four on a circle are good", 0, round.improve(500));
    }

    /** 0, 1 and 2, 3 lie as two flat squares, each with its longer way across. */
    private static TriangleSheet twoFlatSquares() {
        TriangleSheet s = withPoints(0, 50, 100, 40, 200, 50, 100, 60, 0, 250, 100, 240, 200, 250, 100, 260);
        s.triangle(0, 1, 2);
        s.triangle(2, 3, 0);
        s.triangle(4, 5, 6);
        s.triangle(6, 7, 4);
        return s;
    }

    private static void improveTheFirstEdge() {
        TriangleSheet s = twoFlatSquares();
        due("count(7) of two", 4, s.count(7));
        due("improve(1) of two", 1, s.improve(1));
        dueCorners("improve(1) of two", s, 0, 1, 2, 3);
        dueCorners("improve(1) of two", s, 2, 4, 5, 6);
        due("improve(1) of the other", 1, s.improve(1));
        dueCorners("improve(1) of the other", s, 2, 5, 6, 7);
        due("improve(1) of none", 0, s.improve(1));
        TriangleSheet both = twoFlatSquares();
        due("improve(2) of two", 2, both.improve(2));

        // Both of triangle 0's upper edges are bad: the one with the lesser k is turned.
        TriangleSheet edges = withPoints(100, 100, 200, 100, 150, 300, 220, 200, 80, 200);
        edges.triangle(0, 1, 2);
        edges.triangle(2, 1, 3);
        edges.triangle(0, 2, 4);
        due("its edge 1", false, edges.isGood(0, 1));
        due("its edge 2", false, edges.isGood(0, 2));
        due("improve(1) of its edges", 1, edges.improve(1));
        dueCorners("improve(1) of its edges", edges, 0, 0, 1, 3);
        dueCorners("improve(1) of its edges", edges, 1, 3, 2, 0);
        dueCorners("improve(1) of its edges", edges, 2, 0, 2, 4);

        // An edge that is bad but cannot be turned is passed over for a later one.
        TriangleSheet passed = withPoints(0, 0, 64, 0, 0, 64, 500, 500, 300, 50, 400, 40, 500, 50, 400, 60);
        passed.triangle(1, 0, 2);
        passed.triangle(0, 1, 3);
        passed.triangle(4, 5, 6);
        passed.triangle(6, 7, 4);
        due("the first edge is bad", false, passed.isGood(0, 0));
        due("improve(500) past the first edge", 1, passed.improve(500));
        dueCorners("improve(500) past the first edge", passed, 0, 1, 0, 2);
        dueCorners("improve(500) past the first edge", passed, 2, 5, 6, 7);
        due("the first edge is bad still", 2, passed.count(7));
    }

    private static void improveAgainAndAgain() {
        TriangleSheet s = square(0, 511);
        int[] places = {300, 100, 200, 50, 400, 60, 350, 20, 100, 10, 490, 30};
        for (int i = 0; i < places.length; i += 2) {
            s.part(s.locate(places[i], places[i + 1]), places[i], places[i + 1]);
        }
        TriangleSheet byOne = square(0, 511);
        for (int i = 0; i < places.length; i += 2) {
            byOne.part(byOne.locate(places[i], places[i + 1]), places[i], places[i + 1]);
        }
        int all = s.improve(500);
        int ones = 0;
        while (ones < 500 && byOne.improve(1) == 1) {
            ones++;
        }
        due("improve(500) does what improve(1) does again and again", ones, all);
        due("more than a few turns", true, all > 3);
        for (int t = 0; t < s.count(2); t++) {
            dueCorners("improve by ones", s, t, byOne.corner(t, 0), byOne.corner(t, 1), byOne.corner(t, 2));
        }
        due("count(7) at the end", 0, s.count(7));
        due("fault() at the end", 0, s.fault());
        due("painted(0) at the end", 1024, s.painted(0));
        due("painted(1) at the end", 0, s.painted(1));
    }

    private static void faultOrder() {
        TriangleSheet s = square(0, 64);
        s.triangle(0, 1, 3);
        s.triangle(0, 2, 1);
        s.triangle(0, 1, 2);
        due("fault()", 2, s.fault());
        due("culprit(0)", 2, s.culprit(0));
        due("culprit(1)", 0, s.culprit(1));
        s.take(0);
        due("fault() without 0", 2, s.fault());
        due("culprit(0) without 0", 2, s.culprit(0));
        due("culprit(1) without 0", 1, s.culprit(1));
        s.take(2);
        due("fault() without 2", 1, s.fault());
        due("culprit(0) without 2", 3, s.culprit(0));
        due("culprit(1) without 2", NONE, s.culprit(1));
        s.take(3);
        due("fault() without 3", 0, s.fault());
        s.triangle(1, 2, 0);
        due("fault() of two with the same corners", 2, s.fault());
        due("culprit(0) of two with the same corners", 5, s.culprit(0));
        due("culprit(1) of two with the same corners", 4, s.culprit(1));

        TriangleSheet flat = withPoints(0, 0, 10, 10, 20, 20);
        flat.triangle(0, 1, 2);
        due("fault() of a flat one", 1, flat.fault());
    }

    /** The fault of triangle 0: 0, 1, 2 at (100, 100), (200, 100), (100, 200) and another one's places. */
    private static void duePair(String name, int want, int ax, int ay, int bx, int by, int cx, int cy) {
        int[] other = {ax, ay, bx, by, cx, cy};
        for (int turned = 0; turned < 3; turned++) {
            for (int swapped = 0; swapped < 2; swapped++) {
                TriangleSheet s = withPoints(100, 100, 200, 100, 100, 200);
                int[] p = new int[3];
                for (int k = 0; k < 3; k++) {
                    p[k] = pointAt(s, other[2 * k], other[2 * k + 1]);
                }
                if (swapped == 0) {
                    s.triangle(0, 1, 2);
                }
                s.triangle(p[turned], p[(turned + 1) % 3], p[(turned + 2) % 3]);
                if (swapped == 1) {
                    s.triangle(0, 1, 2);
                }
                due("fault() of " + name, want, s.fault());
            }
        }
    }

    private static int pointAt(TriangleSheet s, int x, int y) {
        int[] known = {100, 100, 200, 100, 100, 200};
        for (int p = 0; p < 3; p++) {
            if (known[2 * p] == x && known[2 * p + 1] == y) {
                return p;
            }
        }
        return s.point(x, y);
    }

    private static void faultOfPairs() {
        duePair("two far apart", 0, 300, 300, 400, 300, 300, 400);
        duePair("two whose boxes meet", 0, 160, 160, 200, 140, 200, 200);
        duePair("an edge shared", 0, 200, 100, 200, 200, 100, 200);
        duePair("an edge shared, one lying over the other", 2, 100, 100, 200, 100, 110, 110);
        duePair("an edge shared, one lying across the other", 2, 100, 100, 200, 100, 200, 200);
        duePair("an edge shared, the third corner on an edge", 2, 100, 100, 200, 100, 150, 150);
        duePair("an edge in a longer one", 2, 250, 50, 300, 300, 100, 200);
        duePair("a corner shared", 0, 200, 100, 300, 100, 300, 200);
        duePair("a corner shared, opposite angles", 0, 100, 100, 50, 100, 100, 50);
        duePair("a corner shared, an edge on a longer edge", 2, 200, 100, 300, 300, 140, 160);
        duePair("a corner shared, an edge on a part of an edge", 2, 100, 100, 50, 50, 150, 100);
        duePair("a corner shared, the other edge goes through", 2, 100, 100, 300, 200, 200, 300);
        duePair("a corner shared, within", 2, 100, 100, 130, 110, 110, 130);
        duePair("a corner shared, side by side", 0, 100, 100, 80, 300, 50, 300);
        duePair("a corner shared, edge in line behind it", 0, 100, 100, 50, 100, 90, 90);
        duePair("a corner within an edge", 2, 150, 100, 140, 50, 160, 50);
        duePair("a corner within the upright edge", 2, 100, 150, 50, 160, 50, 140);
        duePair("a corner just off the upright edge", 0, 99, 150, 50, 160, 50, 140);
        duePair("a corner within the slanted edge", 2, 150, 150, 300, 150, 300, 300);
        duePair("a corner just off the slanted edge", 0, 151, 150, 300, 150, 300, 300);
        duePair("edges in one line that overlap", 2, 150, 100, 120, 50, 250, 100);
        duePair("edges in one line apart", 0, 201, 100, 250, 50, 250, 100);
        duePair("one within the other", 2, 110, 110, 130, 110, 110, 130);
        duePair("one round the other", 2, 50, 50, 400, 50, 50, 400);
        duePair("edges that cross, no corner in the other", 2, 90, 120, 250, 110, 250, 120);
        duePair("a star of six", 2, 90, 170, 140, 80, 180, 180);
        duePair("a corner put in by one place", 2, 199, 100, 300, 100, 300, 101);
    }

    private static void smallestTriangles() {
        TriangleSheet s = withPoints(0, 0, 1, 0, 1, 1, 0, 1);
        s.triangle(0, 1, 2);
        s.triangle(0, 2, 3);
        due("fault() of the smallest square", 0, s.fault());
        due("painted(3) of the smallest square", 2, s.painted(3));
        due("turn in the smallest square", true, s.turn(0, 2));
        due("fault() of the smallest square turned", 0, s.fault());

        TriangleSheet parted = withPoints(0, 0, 2, 1, 1, 2);
        parted.triangle(0, 1, 2);
        due("part at the only place within", 3, parted.part(0, 1, 1));
        due("fault() of the smallest parted one", 0, parted.fault());

        TriangleSheet sliver = withPoints(0, 0, 511, 510, 510, 509);
        sliver.triangle(0, 2, 1);
        due("fault() of a sliver of turn 1", 0, sliver.fault());
        due("painted(3) of a sliver of turn 1", 1, sliver.painted(3));
    }

    private static void culprit() {
        TriangleSheet s = square(0, 64);
        due("fault()", 0, s.fault());
        due("culprit(0) without", NONE, s.culprit(0));
        due("culprit(1) without", NONE, s.culprit(1));
        s.triangle(0, 1, 3);
        due("culprit(0) before fault()", NONE, s.culprit(0));
        due("fault() with 2", 2, s.fault());
        int[] off = {-1, 2, LEAST, MOST};
        for (int which : off) {
            due("culprit(" + which + ")", NONE, s.culprit(which));
        }
        s.take(2);
        due("fault() again", 0, s.fault());
        due("culprit(0) of the latest one", 2, s.culprit(0));
        due("culprit(1) of the latest one", 0, s.culprit(1));
        s.triangle(1, 0, 2);
        due("fault() of the mirror", 1, s.fault());
        due("culprit(0) of the mirror", 3, s.culprit(0));
        due("culprit(1) of the mirror", NONE, s.culprit(1));
    }

    private static void coversAndWho() {
        TriangleSheet s = square(0, 511);
        s.triangle(0, 1, 3);
        due("covers(0, 0)", 2, s.covers(0, 0));
        due("who(0, 0), on the edge between", 0, s.who(0, 0));
        due("who(0, 31)", 1, s.who(0, 31));
        due("covers(31, 31)", 1, s.covers(31, 31));
        due("who(31, 0)", 0, s.who(31, 0));
        s.take(0);
        due("who(31, 30) without 0", NONE, s.who(31, 30));
        due("covers(31, 30) without 0", 0, s.covers(31, 30));
        due("who(1, 0) without 0", 2, s.who(1, 0));
        int[] off = {-1, 32, LEAST, MOST};
        for (int i : off) {
            due("covers(" + i + ", 0)", 0, s.covers(i, 0));
            due("covers(0, " + i + ")", 0, s.covers(0, i));
            due("who(" + i + ", 0)", NONE, s.who(i, 0));
            due("who(0, " + i + ")", NONE, s.who(0, i));
        }
        TriangleSheet crooked = withPoints(8, 8, 200, 8, 8, 200, 100, 8);
        crooked.triangle(0, 2, 1);
        crooked.triangle(0, 1, 3);
        crooked.triangle(1, 0, 3);
        due("covers of what is not right", 0, crooked.covers(2, 2));
        due("covers of what is flat", 0, crooked.covers(2, 0));
        due("who of what is not right", NONE, crooked.who(2, 2));
    }

    private static void coversEachEdgeOnce() {
        // A fan round a sample, its rim through samples too.
        int[] rim = {56, 56, 72, 56, 88, 56, 88, 72, 88, 88, 72, 88, 56, 88, 56, 72};
        TriangleSheet s = withPoints(rim);
        int middle = s.point(72, 72);
        for (int p = 0; p < 8; p++) {
            s.triangle(p, (p + 1) % 8, middle);
        }
        due("fault() of the fan", 0, s.fault());
        due("covers of the middle", 1, s.covers(4, 4));
        due("who of the middle", 2, s.who(4, 4));
        due("the left side", 1, s.covers(3, 4));
        due("the upper side", 1, s.covers(4, 5));
        due("the right side", 0, s.covers(5, 4));
        due("the lower side", 0, s.covers(4, 3));
        due("the left upper corner", 1, s.covers(3, 5));
        due("the right upper corner", 0, s.covers(5, 5));
        due("the left lower corner", 0, s.covers(3, 3));
        due("the right lower corner", 0, s.covers(5, 3));
        due("painted(0) of the fan", 4, s.painted(0));
        due("painted(1) of the fan", 0, s.painted(1));
    }

    private static void painted() {
        TriangleSheet s = square(0, 511);
        due("painted(0)", 1024, s.painted(0));
        due("painted(1)", 0, s.painted(1));
        due("painted(2)", 1024, s.painted(2));
        due("painted(3)", 2 * 511 * 511, s.painted(3));
        s.triangle(0, 1, 2);
        due("painted(0) with one twice", 1024, s.painted(0));
        due("painted(1) with one twice", 528, s.painted(1));
        due("painted(2) with one twice", 1552, s.painted(2));
        s.triangle(0, 1, 2);
        due("painted(1) with one thrice", 528, s.painted(1));
        due("painted(2) with one thrice", 2080, s.painted(2));
        due("painted(3) with one thrice", 4 * 511 * 511, s.painted(3));
        s.triangle(2, 1, 0);
        due("painted(3) with a mirror", 4 * 511 * 511, s.painted(3));
        due("painted(2) with a mirror", 2080, s.painted(2));
        int[] off = {-1, 4, LEAST, MOST};
        for (int what : off) {
            due("painted(" + what + ")", NONE, s.painted(what));
        }
        for (int t = 5; t < 60; t++) {
            s.triangle(0, 1, 2);
        }
        due("painted(2) of a full sheet", 58 * 528 + 496, s.painted(2));
    }

    private static void locate() {
        TriangleSheet s = square(10, 74);
        due("locate within", 0, s.locate(50, 20));
        due("locate within the other", 1, s.locate(20, 50));
        due("locate on the edge between", 0, s.locate(42, 42));
        due("locate at a corner", 0, s.locate(74, 10));
        due("locate at the other's corner", 1, s.locate(10, 74));
        due("locate on an outer edge", 0, s.locate(30, 10));
        due("locate just outside", NONE, s.locate(30, 9));
        due("locate beyond an edge's end", NONE, s.locate(75, 75));
        s.take(0);
        due("locate on the edge without 0", 1, s.locate(42, 42));
        int[] off = {-1, 512, LEAST, MOST};
        for (int x : off) {
            due("locate(" + x + ", 20)", NONE, s.locate(x, 20));
            due("locate(20, " + x + ")", NONE, s.locate(20, x));
            due("locate(" + x + ", " + x + ")", NONE, s.locate(x, x));
        }
        TriangleSheet crooked = withPoints(0, 0, 100, 0, 0, 100, 50, 0);
        crooked.triangle(0, 2, 1);
        crooked.triangle(0, 1, 3);
        due("locate in what is not right", NONE, crooked.locate(20, 20));
        due("locate on what is flat", NONE, crooked.locate(20, 0));
    }

    private static void beside() {
        TriangleSheet s = square(0, 64);
        due("beside(0, 2)", 1, s.beside(0, 2));
        due("beside(1, 0)", 0, s.beside(1, 0));
        due("beside(0, 0)", NONE, s.beside(0, 0));
        due("beside(0, 1)", NONE, s.beside(0, 1));
        int[] off = {-1, 3, LEAST, MOST};
        for (int k : off) {
            due("beside(0, " + k + ")", NONE, s.beside(0, k));
            due("beside(" + k + ", 0)", NONE, s.beside(k, 0));
        }
        s.triangle(3, 0, 2);
        s.triangle(2, 0, 1);
        due("the same way round is no neighbour", NONE, s.beside(0, 0));
        due("the least of two", 1, s.beside(3, 0));
        due("the least of two, by the other", 0, s.beside(2, 1));
        s.take(1);
        due("the one that is left", 2, s.beside(0, 2));
        s.take(2);
        due("none is left", NONE, s.beside(0, 2));
        s.triangle(0, 2, 1);
        due("a mirror is a neighbour", 4, s.beside(0, 0));
        due("a mirror is a neighbour by each edge", 4, s.beside(0, 1));
        due("and the other way", 0, s.beside(4, 2));
    }

    private static void isGood() {
        TriangleSheet s = square(0, 64);
        due("four on a circle", true, s.isGood(0, 2));
        due("no neighbour", true, s.isGood(0, 0));
        s.move(3, 1, 64);
        due("one within", false, s.isGood(0, 2));
        due("one within, by the other", false, s.isGood(1, 0));
        s.move(3, 0, 65);
        due("one outside", true, s.isGood(0, 2));
        int[] off = {-1, 3, LEAST, MOST};
        for (int k : off) {
            due("isGood(0, " + k + ")", false, s.isGood(0, k));
            due("isGood(" + k + ", 0)", false, s.isGood(k, 0));
        }
        s.take(1);
        due("isGood of what is gone", false, s.isGood(1, 0));
        due("without a neighbour now", true, s.isGood(0, 2));

        TriangleSheet wide = withPoints(0, 0, 511, 511, 0, 511, 510, 0);
        wide.triangle(0, 1, 2);
        wide.triangle(1, 0, 3);
        due("a large one within", false, wide.isGood(0, 0));
        wide.move(3, 511, 0);
        due("a large one on the circle", true, wide.isGood(0, 0));

        // By the words alone: a triangle that is not right has its circle's sign turned round.
        TriangleSheet crooked = withPoints(0, 0, 64, 0, 0, 64, 500, 500);
        crooked.triangle(1, 0, 2);
        crooked.triangle(0, 1, 3);
        due("outside of a mirror's circle", false, crooked.isGood(0, 0));
        crooked.move(3, 30, 30);
        due("inside of a mirror's circle", true, crooked.isGood(0, 0));
    }

    private static void corner() {
        TriangleSheet s = withPoints(0, 0, 64, 0, 64, 64, 0, 64);
        s.triangle(3, 1, 2);
        dueCorners("triangle(3, 1, 2)", s, 0, 3, 1, 2);
        int[] off = {-1, 3, LEAST, MOST};
        for (int k : off) {
            due("corner(0, " + k + ")", NONE, s.corner(0, k));
            due("corner(" + k + ", 0)", NONE, s.corner(k, 0));
        }
        s.take(0);
        due("corner of what is gone", NONE, s.corner(0, 0));
    }

    private static void dueCounts(String name, TriangleSheet s, int... want) {
        for (int what = 0; what < want.length; what++) {
            due("count(" + what + ") of " + name, want[what], s.count(what));
        }
    }

    private static void count() {
        TriangleSheet s = square(0, 64);
        s.point(300, 300);
        dueCounts("a square", s, 5, 2, 2, 4, 5, 4, 1, 0);
        s.triangle(0, 1, 2);
        dueCounts("a square, one twice", s, 5, 3, 3, 4, 5, 6, 1, 0);
        s.move(3, 1, 63);
        dueCounts("a dented square, one twice", s, 5, 3, 3, 4, 5, 6, 1, 3);
        s.take(1);
        dueCounts("one twice", s, 5, 2, 3, 3, 3, 6, 2, 0);
        s.triangle(2, 1, 0);
        dueCounts("one twice and a mirror", s, 5, 3, 4, 3, 3, 0, 1, 0);
        int[] off = {-1, 8, LEAST, MOST};
        for (int what : off) {
            due("count(" + what + ")", NONE, s.count(what));
        }
        TriangleSheet full = withManyPoints(60);
        for (int t = 0; t < 20; t++) {
            full.triangle(3 * t, 3 * t + 1, 3 * t + 2);
        }
        dueCounts("lonely ones", full, 60, 20, 20, 60, 60, 60, 20, 0);
        full.triangle(58, 57, 0);
        dueCounts("lonely ones but two", full, 60, 21, 21, 60, 62, 61, 20);
    }

    private static void countOfPieces() {
        // 2's neighbour is 0, whose own is 1: they hang together all the same.
        TriangleSheet s = withPoints(100, 100, 200, 100, 150, 200, 150, 20, 150, 30, 400, 400, 410, 400, 400, 410);
        s.triangle(0, 1, 2);
        s.triangle(1, 0, 3);
        s.triangle(1, 0, 4);
        due("beside(0, 0)", 1, s.beside(0, 0));
        due("beside(2, 0)", 0, s.beside(2, 0));
        due("count(6) either way", 1, s.count(6));
        s.triangle(5, 6, 7);
        due("count(6) of two pieces", 2, s.count(6));
        s.triangle(7, 5, 0);
        due("one that has an edge the same way round", 3, s.count(6));
        s.triangle(6, 5, 2);
        due("a third one at the edge", 3, s.count(6));
        s.triangle(2, 5, 0);
        due("pieces joined by a triangle between", 2, s.count(6));
        s.take(0);
        due("pieces parted by what goes", 4, s.count(6));
    }

    private static void refusedCallsChangeNothing() {
        TriangleSheet s = square(0, 64);
        s.triangle(1, 0, 2);
        due("fault()", 1, s.fault());
        Call[] calls = {
            () -> s.point(0, 0), () -> s.point(-1, 0), () -> s.move(0, 64, 64), () -> s.move(0, 1, 512),
            () -> s.move(9, 1, 1), () -> s.triangle(0, 1, 4), () -> s.triangle(0, 0, 1), () -> s.take(3),
            () -> s.part(0, 0, 0), () -> s.part(2, 20, 10), () -> s.part(7, 20, 10), () -> s.turn(0, 3),
            () -> s.turn(7, 0), () -> s.improve(-1), () -> s.improve(501)};
        for (Call call : calls) {
            try {
                call.run();
                due("a refused call goes through", 0, 1);
            } catch (RuntimeException e) {
                checks++;
            }
        }
        dueCounts("the sheet after refusals", s, 4, 3, 3, 4, 5, 2, 1);
        dueCorners("after refusals", s, 0, 0, 1, 2);
        dueCorners("after refusals", s, 1, 0, 2, 3);
        dueCorners("after refusals", s, 2, 1, 0, 2);
        due("culprit(0) after refusals", 2, s.culprit(0));
        due("painted(3) after refusals", 8192, s.painted(3));
    }

    /** 60 points and 60 triangles: what goes once round the sheet ends there. */
    private static void fullSheet() {
        TriangleSheet s = new TriangleSheet();
        for (int i = 0; i < 30; i++) {
            s.point(16 * i, 100);
            s.point(16 * i, 200);
        }
        for (int i = 0; i < 29; i++) {
            s.triangle(2 * i, 2 * i + 2, 2 * i + 1);
            s.triangle(2 * i + 1, 2 * i + 2, 2 * i + 3);
        }
        dueCounts("a band", s, 60, 58, 58, 60, 117, 60, 1, 0);
        s.triangle(0, 1, 2);
        s.triangle(58, 57, 59);
        dueCounts("a full sheet", s, 60, 60, 60, 60, 117, 56, 1);
        due("fault() of a full sheet", 1, s.fault());
        due("culprit(0) of a full sheet", 58, s.culprit(0));
        due("who of none in a full sheet", NONE, s.who(31, 31));
        due("covers of none in a full sheet", 0, s.covers(31, 31));
        due("locate of none in a full sheet", NONE, s.locate(511, 511));
        due("beside in a full sheet", NONE, s.beside(2, 0));
        due("painted(0) of a full sheet", 29 * 7, s.painted(0));
        due("painted(3) of a full sheet", 58 * 1600, s.painted(3));
        dueThrow("take(60) of a full sheet", INDEX, () -> s.take(60));
        due("improve(500) of a full sheet", 0, s.improve(500));
        s.take(59);
        s.take(58);
        due("fault() of the band", 0, s.fault());
        s.take(57);
        due("who where the last one was", NONE, s.who(28, 12));
        due("locate where the last one was", NONE, s.locate(464, 200));
        due("who in the last but one", 56, s.who(28, 6));
    }
}
