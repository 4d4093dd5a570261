import java.lang.annotation.Retention;
import java.lang.annotation.RetentionPolicy;
import java.lang.reflect.InvocationTargetException;
import java.lang.reflect.Method;
import java.lang.reflect.Modifier;
import java.util.ArrayList;
import java.util.Arrays;
import java.util.Collections;
import java.util.Comparator;
import java.util.List;

/**
 * Each sentence of the document that names a boundary case, in a test of its own: the annotation quotes the
 * sentence and says where it stands, and every method that bears one is run.
 */
public final class BoundariesTest {
    @Retention(RetentionPolicy.RUNTIME)
    private @interface Sentence {
        String of();

        String says();
    }

    private interface Call {
        void run();
    }

    private static final Class<?> INDEX = IndexOutOfBoundsException.class;
    private static final Class<?> ARGUMENT = IllegalArgumentException.class;
    private static final Class<?> STATE = IllegalStateException.class;
    private static final int NONE = TriangleSheet.NONE;
    private static final int LEAST = Integer.MIN_VALUE;
    private static final int MOST = Integer.MAX_VALUE;
    private static final int[] NO_COORDINATES = {-1, 512, LEAST, MOST};
    private static final int[] NO_PIXELS = {-1, 32, LEAST, MOST};
    private static final int[] NO_EDGES = {-1, 3, 4, LEAST, MOST};
    // Of (0, 0), (300, 0), (0, 300): so far off that each TURN, as an int, goes round to above 0.
    private static final int[][] SEEM_WITHIN = {{5, 14316558}, {14316558, 5}, {434000000, 606000000}};

    private static String sentence = "";
    private static int checks = 0;
    private static int wrong = 0;

    public static void main(String[] args) throws IllegalAccessException {
        Method[] methods = BoundariesTest.class.getDeclaredMethods();
        Arrays.sort(methods, Comparator.comparing(Method::getName));
        int tests = 0;
        for (Method method : methods) {
            if (method.isAnnotationPresent(Sentence.class)) {
                tests++;
                runTest(method);
            }
        }
        System.out.println(tests + " sentences, " + (checks - wrong) + " of " + checks + " answers are as due");
        if (wrong != 0) {
            System.exit(1);
        }
    }

    private static void runTest(Method method) throws IllegalAccessException {
        Sentence said = method.getAnnotation(Sentence.class);
        sentence = said.of() + ", \"" + said.says() + "\" (" + method.getName() + ")";
        int before = checks;
        try {
            method.invoke(null);
        } catch (InvocationTargetException e) {
            tell("threw " + e.getCause());
        }
        if (checks == before) {
            tell("nothing was checked");
        }
    }

    private static void tell(String what) {
        wrong++;
        System.out.println(sentence + ": " + what);
    }

    private static void due(String call, long want, long got) {
        checks++;
        if (got != want) {
            tell(call + " answered " + got + ", due is " + want);
        }
    }

    private static void due(String call, boolean want, boolean got) {
        due(call, want ? 1 : 0, got ? 1 : 0);
    }

    private static void dueText(String what, String want, String got) {
        checks++;
        if (!got.equals(want)) {
            tell(what + " was " + got + ", due is " + want);
        }
    }

    private static void dueCorners(String call, TriangleSheet s, int t, int a, int b, int c) {
        due(call + ", corner 0 of " + t, a, s.corner(t, 0));
        due(call + ", corner 1 of " + t, b, s.corner(t, 1));
        due(call + ", corner 2 of " + t, c, s.corner(t, 2));
    }

    /** A refused call throws, and the sheet is as it was. */
    private static void refused(String call, Class<?> want, TriangleSheet s, Call todo) {
        String before = look(s);
        dueText("the throw of " + call, want.getSimpleName(), thrownBy(todo));
        dueText("the sheet after " + call, before, look(s));
    }

    private static String thrownBy(Call todo) {
        try {
            todo.run();
            return "nothing";
        } catch (RuntimeException e) {
            return e.getClass().getSimpleName();
        }
    }

    private static String look(TriangleSheet s) {
        return s.count(0) + " points, " + s.count(1) + " of " + s.count(2) + " triangles, turns " + s.painted(3)
                + ", " + s.count(4) + " edges, culprits " + s.culprit(0) + " " + s.culprit(1);
    }

    private static TriangleSheet withPoints(int... places) {
        TriangleSheet s = new TriangleSheet();
        for (int i = 0; i < places.length; i += 2) {
            s.point(places[i], places[i + 1]);
        }
        return s;
    }

    /** Points 0, 1, 2 and the triangle of them, of the places told. */
    private static TriangleSheet one(int... places) {
        TriangleSheet s = withPoints(places);
        s.triangle(0, 1, 2);
        return s;
    }

    /** Triangles 0: 0, 1, 2 and 1: 0, 2, 3 of a square. */
    private static TriangleSheet square(int low, int high) {
        TriangleSheet s = withPoints(low, low, high, low, high, high, low, high);
        s.triangle(0, 1, 2);
        s.triangle(0, 2, 3);
        return s;
    }

    private static TriangleSheet withManyPoints(int many) {
        TriangleSheet s = new TriangleSheet();
        for (int i = 0; i < many; i++) {
            s.point(i % 10 * 50 + i / 10, i / 10 * 80);
        }
        return s;
    }

    /** One RIGHT triangle of (0, 0), (300, 0), (0, 300) as often as is told. */
    private static TriangleSheet withManyThere(int many) {
        TriangleSheet s = withPoints(0, 0, 300, 0, 0, 300);
        for (int t = 0; t < many; t++) {
            s.triangle(0, 1, 2);
        }
        return s;
    }

    /** As many have come, and the latest alone is there. */
    private static TriangleSheet withManyCome(int many) {
        TriangleSheet s = withPoints(0, 0, 300, 0, 0, 300);
        for (int t = 0; t < many; t++) {
            s.triangle(0, 1, 2);
            if (t < many - 1) {
                s.take(t);
            }
        }
        return s;
    }

    /** A triangle of (100, 100), (200, 100), (100, 200) and another of the places told, with points shared. */
    private static int faultOfPair(int... places) {
        int[] xs = {100, 200, 100};
        int[] ys = {100, 100, 200};
        TriangleSheet s = one(100, 100, 200, 100, 100, 200);
        int[] corners = new int[3];
        for (int k = 0; k < 3; k++) {
            corners[k] = NONE;
            for (int p = 0; p < 3; p++) {
                if (xs[p] == places[2 * k] && ys[p] == places[2 * k + 1]) {
                    corners[k] = p;
                }
            }
            if (corners[k] == NONE) {
                corners[k] = s.point(places[2 * k], places[2 * k + 1]);
            }
        }
        s.triangle(corners[0], corners[1], corners[2]);
        return s.fault();
    }

    // The head of the document, its face and its terms.

    @Sentence(of = "What it is", says = "An object is used for at most 512 calls after it has been made")
    private static void head_the512thCallIsAnswered() {
        TriangleSheet s = square(0, 64);
        for (int calls = 6; calls < 511; calls++) {
            due("turn, as call " + (calls + 1), true, s.turn(0, 2));
        }
        due("painted(3) as call 512", 8192, s.painted(3));
    }

    @Sentence(of = "The public face", says = "public final class TriangleSheet")
    private static void face_thatAndNothingElseIsPublic() {
        List<String> members = new ArrayList<>();
        for (Method method : TriangleSheet.class.getDeclaredMethods()) {
            if (!Modifier.isPrivate(method.getModifiers()) && !method.isSynthetic()) {
                members.add(method.getName());
            }
        }
        Collections.sort(members);
        dueText("the methods", "[beside, corner, count, covers, culprit, fault, improve, isGood, locate, move, "
                + "painted, part, point, take, triangle, turn, who]", members.toString());
        dueText("the class", "public final", Modifier.toString(TriangleSheet.class.getModifiers()));
        due("the constructors", 1, TriangleSheet.class.getConstructors().length);
        due("the public fields", 1, TriangleSheet.class.getFields().length);
    }

    @Sentence(of = "Terms", says = "The constants: `NONE = -1`: None.")
    private static void terms_noneIsMinusOne() {
        due("NONE", -1, TriangleSheet.NONE);
    }

    @Sentence(of = "Terms", says = "PLACES: x, y 0 .. 511")
    private static void terms_theOutermostPlaces() {
        TriangleSheet s = new TriangleSheet();
        due("point(0, 0)", 0, s.point(0, 0));
        due("point(511, 0)", 1, s.point(511, 0));
        due("point(511, 511)", 2, s.point(511, 511));
        due("point(0, 511)", 3, s.point(0, 511));
        s.triangle(0, 1, 2);
        s.triangle(0, 2, 3);
        due("painted(3)", 2 * 511 * 511, s.painted(3));
        due("locate(0, 0)", 0, s.locate(0, 0));
        due("locate(511, 0)", 0, s.locate(511, 0));
        due("locate(511, 511)", 0, s.locate(511, 511));
        due("locate(0, 511)", 1, s.locate(0, 511));
    }

    @Sentence(of = "Terms", says = "y goes up")
    private static void terms_yGoesUp() {
        due("fault() with the third corner above", 0, one(0, 0, 10, 0, 0, 10).fault());
        due("fault() with the third corner below", 1, one(0, 10, 10, 10, 0, 0).fault());
    }

    @Sentence(of = "Terms", says = "PIXELS (i, j), 0 .. 31 each, have their SAMPLE at (16 i + 8, 16 j + 8).")
    private static void terms_samplesOfTheOutermostPixels() {
        int[] outermost = {0, 31};
        for (int i : outermost) {
            for (int j : outermost) {
                int x = 16 * i + 8;
                int y = 16 * j + 8;
                TriangleSheet s = one(x - 1, y - 1, x + 2, y - 1, x - 1, y + 2);
                due("covers round the sample of " + i + ", " + j, 1, s.covers(i, j));
                due("painted(2) round the sample of " + i + ", " + j, 1, s.painted(2));
            }
        }
        due("painted(0) between samples", 0, one(9, 9, 23, 9, 9, 23).painted(0));
    }

    @Sentence(of = "Terms", says = "POINTS are numbered from 0 on as they come, at most 60")
    private static void terms_sixtyPointsFrom0On() {
        TriangleSheet s = new TriangleSheet();
        for (int i = 0; i < 60; i++) {
            due("point " + i, i, s.point(511 - i, i));
        }
        due("count(0)", 60, s.count(0));
    }

    @Sentence(of = "Terms", says = "each at a place, no two at one")
    private static void terms_noTwoPointsAtOnePlace() {
        TriangleSheet s = one(0, 0, 300, 0, 0, 300);
        s.point(50, 50);
        refused("point", STATE, s, () -> s.point(50, 50));
        refused("move", STATE, s, () -> s.move(0, 50, 50));
        refused("part", STATE, s, () -> s.part(0, 50, 50));
    }

    @Sentence(of = "Terms",
            says = "TRIANGLES are numbered from 0 on as they come, at most 200, of which 60 may be there")
    private static void terms_numbersOfTrianglesAreNotUsedAgain() {
        TriangleSheet s = withPoints(0, 0, 300, 0, 0, 300);
        for (int t = 0; t < 200; t++) {
            due("triangle " + t, t, s.triangle(0, 1, 2));
            if (t >= 59 && t < 199) {
                s.take(t - 59);
            }
        }
        due("count(1)", 60, s.count(1));
        due("count(2)", 200, s.count(2));
        due("the least that is there", 140, s.locate(0, 0));
    }

    @Sentence(of = "Terms", says = "EDGE k goes from corner k to the next one (2: to 0).")
    private static void terms_edge2GoesToCorner0() {
        TriangleSheet s = withPoints(10, 0, 64, 0, 10, 64, 0, 32, 64, 64);
        s.triangle(0, 1, 2);
        s.triangle(0, 2, 3);
        due("beside by edge 2", 1, s.beside(0, 2));
        due("beside by edge 1", NONE, s.beside(0, 1));
        due("beside by edge 0", NONE, s.beside(0, 0));
        s.triangle(2, 1, 4);
        due("beside by edge 1 then", 2, s.beside(0, 1));
    }

    @Sentence(of = "Terms", says = "A triangle is RIGHT if the TURN of its corners is above 0.")
    private static void terms_rightIsATurnAbove0() {
        due("fault() of TURN 1", 0, one(0, 0, 1, 0, 0, 1).fault());
        due("fault() of TURN 0", 1, one(0, 0, 1, 0, 2, 0).fault());
        due("fault() of TURN -1", 1, one(0, 0, 0, 1, 1, 0).fault());
        due("fault() of TURN 1, far", 0, one(0, 0, 510, 509, 511, 510).fault());
        due("fault() of TURN 0, far", 1, one(1, 0, 256, 255, 511, 510).fault());
        due("fault() of the largest TURN", 0, one(0, 0, 511, 0, 0, 511).fault());
        due("fault() of the least TURN", 1, one(0, 0, 0, 511, 511, 0).fault());
    }

    @Sentence(of = "Terms", says = "TIDY if what lies in both (with their edges) is nothing")
    private static void terms_tidyWithNothingInBoth() {
        due("beside it, one place apart", 0, faultOfPair(201, 100, 300, 100, 201, 150));
        due("along its long edge, one place apart", 0, faultOfPair(101, 200, 200, 101, 200, 200));
        due("a corner one place off an edge", 0, faultOfPair(150, 99, 140, 50, 160, 50));
        due("in one line with an edge", 0, faultOfPair(201, 100, 300, 100, 300, 101));
    }

    @Sentence(of = "Terms", says = "one place that is a corner of both")
    private static void terms_tidyWithOneCornerInBoth() {
        due("a corner, edges in one line", 0, faultOfPair(200, 100, 300, 100, 300, 150));
        due("a corner, opposite", 0, faultOfPair(100, 100, 0, 50, 50, 0));
        due("a corner, boxes in one another", 0, faultOfPair(200, 100, 201, 101, 150, 151));
        due("a corner of the later one alone, from below", 2, faultOfPair(150, 100, 140, 50, 160, 50));
        due("a corner of the later one alone, from the left", 2, faultOfPair(100, 150, 50, 160, 50, 140));
        due("a corner of the later one alone, on the long edge", 2, faultOfPair(150, 150, 180, 150, 150, 180));
        due("a corner of the first one alone, from the right", 2, faultOfPair(200, 50, 300, 100, 200, 150));
        due("a corner of the first one alone, from above", 2, faultOfPair(50, 200, 150, 200, 100, 250));
        due("a corner, and more beyond it", 2, faultOfPair(100, 100, 300, 110, 300, 120));
    }

    @Sentence(of = "Terms", says = "or one whole edge of both")
    private static void terms_tidyWithOneWholeEdgeInBoth() {
        due("edge 0", 0, faultOfPair(200, 100, 100, 100, 150, 50));
        due("edge 1", 0, faultOfPair(200, 100, 200, 200, 100, 200));
        due("edge 2", 0, faultOfPair(50, 150, 100, 100, 100, 200));
        due("a part of an edge from one corner on", 2, faultOfPair(100, 100, 150, 50, 150, 100));
        due("a part of the later one's edge", 2, faultOfPair(100, 100, 200, 50, 300, 100));
        due("a part between the corners", 2, faultOfPair(120, 100, 150, 50, 180, 100));
        due("a part of each edge", 2, faultOfPair(150, 100, 200, 50, 250, 100));
        due("an edge, and what lies on one side of it", 2, faultOfPair(100, 100, 200, 100, 200, 200));
    }

    @Sentence(of = "Terms", says = "Two RIGHT ones are TIDY if what lies in both")
    private static void terms_notTidyWithMoreInBoth() {
        due("the same", 2, faultOfPair(100, 100, 200, 100, 100, 200));
        due("the same, from another corner on", 2, faultOfPair(100, 200, 100, 100, 200, 100));
        due("one within", 2, faultOfPair(110, 110, 130, 110, 110, 130));
        due("one round", 2, faultOfPair(50, 50, 400, 50, 50, 400));
        due("edges that cross, no corner in the other", 2, faultOfPair(90, 120, 250, 110, 250, 120));
        due("a star of six", 2, faultOfPair(90, 170, 140, 80, 180, 180));
        due("a corner one place within", 2, faultOfPair(150, 101, 140, 50, 160, 50));
    }

    @Sentence(of = "Terms", says = "The sheet is SOUND if all are RIGHT and each two are TIDY.")
    private static void terms_soundNeedsAllRightAndEachTwoTidy() {
        due("fault() of none", 0, new TriangleSheet().fault());
        due("fault() of one", 0, one(0, 0, 9, 0, 0, 9).fault());
        due("fault() of two", 0, square(0, 64).fault());
        TriangleSheet crooked = square(0, 64);
        crooked.triangle(2, 1, 0);
        due("fault() with one that is not RIGHT", 1, crooked.fault());
        TriangleSheet untidy = square(0, 64);
        untidy.point(60, 10);
        untidy.point(200, 10);
        untidy.point(200, 20);
        untidy.triangle(4, 5, 6);
        due("fault() with two that are not TIDY", 2, untidy.fault());
    }

    @Sentence(of = "Terms", says = "for each of its edges, from p to q: TURN(p, q, s) is above 0")
    private static void terms_coversAllInside() {
        TriangleSheet s = one(24, 23, 121, 72, 24, 121);
        due("covers one beside each edge", 1, s.covers(1, 2));
        due("covers one just beside an edge up", 1, one(20, 72, 25, 60, 25, 90).covers(1, 4));
        due("covers one just beyond an edge up", 0, one(18, 72, 23, 60, 23, 90).covers(1, 4));
        due("covers one just beyond an edge down", 0, one(30, 72, 25, 90, 25, 60).covers(1, 4));
        due("covers one just beyond an edge to the left", 0, one(24, 50, 40, 71, 8, 71).covers(1, 4));
        due("covers one just beyond an edge to the right", 0, one(8, 73, 40, 73, 24, 90).covers(1, 4));
    }

    @Sentence(of = "Terms", says = "or it is 0, and q is lower than p")
    private static void terms_coversOnAnEdgeThatGoesDown() {
        due("on an edge straight down", 1, one(24, 120, 24, 24, 120, 72).covers(1, 4));
        due("on an edge down to the right", 1, one(24, 120, 120, 24, 120, 120).covers(4, 4));
        due("on an edge down to the left", 1, one(120, 120, 24, 24, 120, 24).covers(4, 4));
        due("on an edge straight up", 0, one(120, 24, 120, 120, 24, 72).covers(7, 4));
        due("on an edge up to the left", 0, one(120, 24, 24, 120, 24, 24).covers(4, 4));
        due("on an edge up to the right", 0, one(24, 24, 120, 120, 24, 120).covers(4, 4));
    }

    @Sentence(of = "Terms", says = "or as high and left of it")
    private static void terms_coversOnAnEdgeToTheLeft() {
        due("on an edge to the left", 1, one(72, 24, 120, 120, 24, 120).covers(4, 7));
        due("on an edge to the right", 0, one(24, 24, 120, 24, 72, 120).covers(4, 1));
    }

    @Sentence(of = "Terms", says = "A RIGHT triangle COVERS a sample s, if for each of its edges")
    private static void terms_coversAtACornerNeedsBothEdges() {
        TriangleSheet s = one(24, 24, 120, 24, 24, 120);
        due("the corner of a way to the right and a way down", 0, s.covers(1, 1));
        due("the corner of a way to the right and a way up", 0, s.covers(7, 1));
        due("the corner of a way up and a way down", 0, s.covers(1, 7));
        TriangleSheet high = one(120, 24, 120, 120, 24, 120);
        due("the corner of a way to the left and a way down", 1, high.covers(1, 7));
        TriangleSheet crooked = one(24, 24, 24, 120, 120, 24);
        due("within one that is not RIGHT", 0, crooked.covers(2, 2));
        TriangleSheet flat = one(24, 24, 120, 24, 72, 24);
        due("on one that is flat", 0, flat.covers(4, 1));
    }

    @Sentence(of = "Terms", says = "It HAS a place, if no such TURN is below 0.")
    private static void terms_hasItsEdgesAndCorners() {
        TriangleSheet s = one(10, 10, 20, 10, 10, 20);
        int[] has = {10, 10, 20, 10, 10, 20, 15, 10, 10, 15, 15, 15, 11, 11};
        for (int i = 0; i < has.length; i += 2) {
            due("locate(" + has[i] + ", " + has[i + 1] + ")", 0, s.locate(has[i], has[i + 1]));
        }
        int[] hasNot = {9, 10, 10, 9, 21, 10, 10, 21, 15, 9, 9, 15, 16, 15, 15, 16};
        for (int i = 0; i < hasNot.length; i += 2) {
            due("locate(" + hasNot[i] + ", " + hasNot[i + 1] + ")", NONE, s.locate(hasNot[i], hasNot[i + 1]));
        }
    }

    @Sentence(of = "Terms",
            says = "the least other triangle that has an edge the other way round (from the same points)")
    private static void terms_theNeighbourIsTheLeastOther() {
        TriangleSheet s = square(0, 64);
        s.triangle(2, 3, 0);
        s.triangle(2, 0, 1);
        due("the least of two, both greater", 1, s.beside(0, 2));
        due("the least of two, both lesser", 1, s.beside(3, 0));
        due("the least of two, one lesser and one greater", 0, s.beside(1, 0));
        due("the least of two, by the last edge", 0, s.beside(2, 2));
        s.take(0);
        due("the one that is left", 3, s.beside(1, 0));
        due("not the one that has it the same way round", NONE, s.beside(1, 1));
    }

    @Sentence(of = "Terms", says = "if a, d, c and d, b, c are RIGHT")
    private static void terms_anEdgeOfABentPairIsNotTurned() {
        // a is 0, b is 1, c is 2 above, d is 3 below; a and then b lies on, behind or before the line from d to c.
        int[][] ends = {{49, 50, 70, 50}, {50, 50, 70, 50}, {51, 50, 70, 50},
            {30, 50, 51, 50}, {30, 50, 50, 50}, {30, 50, 49, 50}};
        for (int i = 0; i < ends.length; i++) {
            int[] end = ends[i];
            TriangleSheet s = withPoints(end[0], end[1], end[2], end[3], 50, 90, 50, 10);
            s.triangle(0, 1, 2);
            s.triangle(1, 0, 3);
            boolean can = i % 3 == 0;
            due("turn with ends " + Arrays.toString(end), can, s.turn(0, 0));
            dueCorners("turn with ends " + Arrays.toString(end), s, 0, can ? 2 : 0, can ? 0 : 1, can ? 3 : 2);
            dueCorners("turn with ends " + Arrays.toString(end), s, 1, can ? 3 : 1, can ? 1 : 0, can ? 2 : 3);
        }
    }

    @Sentence(of = "Terms", says = "t's corners are c, a, d from now on, u's d, b, c.")
    private static void terms_theCornersAfterATurnByEachEdge() {
        int[] t = {0, 1, 2, 0, 1};
        int[] u = {1, 0, 3, 1, 0};
        for (int k = 0; k < 3; k++) {
            for (int m = 0; m < 3; m++) {
                TriangleSheet s = withPoints(20, 50, 80, 50, 50, 90, 50, 10);
                s.triangle(t[k], t[k + 1], t[k + 2]);
                s.triangle(u[m], u[m + 1], u[m + 2]);
                int edge = (3 - k) % 3;
                due("turn(0, " + edge + ")", true, s.turn(0, edge));
                dueCorners("turn(0, " + edge + ")", s, 0, 2, 0, 3);
                dueCorners("turn(0, " + edge + ")", s, 1, 3, 1, 2);
            }
        }
    }

    @Sentence(of = "Terms", says = "An edge is GOOD if it has no NEIGHBOUR")
    private static void terms_goodWithoutANeighbour() {
        TriangleSheet s = square(0, 64);
        s.move(3, 1, 63);
        due("isGood with a neighbour", false, s.isGood(0, 2));
        due("isGood of edge 0 without", true, s.isGood(0, 0));
        due("isGood of edge 1 without", true, s.isGood(0, 1));
        s.take(1);
        due("isGood of edge 2 without", true, s.isGood(0, 2));
    }

    @Sentence(of = "Terms", says = "their determinant is not above 0")
    private static void terms_goodOnTheCircle() {
        TriangleSheet s = square(0, 511);
        due("isGood on the circle", true, s.isGood(0, 2));
        due("isGood on the circle, by the other", true, s.isGood(1, 0));
        s.move(3, 1, 511);
        due("isGood one place within", false, s.isGood(0, 2));
        due("isGood one place within, by the other", false, s.isGood(1, 0));
        TriangleSheet less = square(0, 510);
        less.move(3, 0, 511);
        due("isGood one place outside", true, less.isGood(0, 2));
        TriangleSheet mirror = one(0, 0, 64, 0, 0, 64);
        mirror.triangle(1, 0, 2);
        due("isGood where c and d are one", true, mirror.isGood(0, 0));
    }

    @Sentence(of = "Terms", says = "d does not lie within the circle round a, b, c")
    private static void terms_goodFarOffAndDeepWithin() {
        // The circle round (60, 450) is known; d goes over the side of the long edge on which 3 lies.
        TriangleSheet s = withPoints(60, 60, 450, 450, 60, 450, 511, 0);
        s.triangle(0, 1, 2);
        s.triangle(1, 0, 3);
        for (int x = 31; x < 512; x += 40) {
            for (int y = 0; y < x; y += 40) {
                s.move(3, x, y);
                int fromTheMiddle = (x - 255) * (x - 255) + (y - 255) * (y - 255);
                due("isGood with d at " + x + ", " + y, fromTheMiddle >= 2 * 195 * 195, s.isGood(0, 0));
            }
        }
    }

    // Promise 1: a new object.

    @Sentence(of = "Promise 1", says = "No points")
    private static void promise01_noPoints() {
        TriangleSheet s = new TriangleSheet();
        due("count(0)", 0, s.count(0));
        due("count(3)", 0, s.count(3));
        refused("move(0, 1, 1)", INDEX, s, () -> s.move(0, 1, 1));
        refused("triangle(0, 1, 2)", INDEX, s, () -> s.triangle(0, 1, 2));
        due("the first point", 0, s.point(0, 0));
        due("count(0) of another new object", 0, new TriangleSheet().count(0));
    }

    @Sentence(of = "Promise 1", says = "no triangles")
    private static void promise01_noTriangles() {
        TriangleSheet s = new TriangleSheet();
        for (int what = 1; what < 8; what++) {
            due("count(" + what + ")", 0, s.count(what));
        }
        for (int what = 0; what < 4; what++) {
            due("painted(" + what + ")", 0, s.painted(what));
        }
        due("locate(0, 0)", NONE, s.locate(0, 0));
        due("corner(0, 0)", NONE, s.corner(0, 0));
        due("improve(500)", 0, s.improve(500));
        refused("take(0)", INDEX, s, () -> s.take(0));
        refused("turn(0, 0)", INDEX, s, () -> s.turn(0, 0));
        refused("part(0, 1, 1)", INDEX, s, () -> s.part(0, 1, 1));
    }

    // Promise 2: point.

    @Sentence(of = "Promise 2", says = "A point comes: its number.")
    private static void promise02_theNumberGoesOnAfterARefusal() {
        TriangleSheet s = new TriangleSheet();
        due("the first point", 0, s.point(7, 7));
        refused("point where one is", STATE, s, () -> s.point(7, 7));
        refused("point at no place", ARGUMENT, s, () -> s.point(7, 512));
        due("the second point", 1, s.point(7, 8));
        due("the third point", 2, s.point(8, 7));
    }

    @Sentence(of = "Promise 2", says = "IllegalArgumentException: no such place.")
    private static void promise02_noSuchPlace() {
        TriangleSheet s = new TriangleSheet();
        for (int off : NO_COORDINATES) {
            refused("point(" + off + ", 0)", ARGUMENT, s, () -> s.point(off, 0));
            refused("point(511, " + off + ")", ARGUMENT, s, () -> s.point(511, off));
            refused("point(" + off + ", " + off + ")", ARGUMENT, s, () -> s.point(off, off));
        }
        TriangleSheet full = withManyPoints(60);
        refused("point at no place with 60", ARGUMENT, full, () -> full.point(-1, 511));
    }

    @Sentence(of = "Promise 2", says = "IllegalStateException: one is there")
    private static void promise02_oneIsThere() {
        TriangleSheet s = withPoints(0, 0, 5, 6);
        refused("point(0, 0)", STATE, s, () -> s.point(0, 0));
        refused("point(5, 6)", STATE, s, () -> s.point(5, 6));
        s.move(1, 7, 8);
        refused("point where one was moved to", STATE, s, () -> s.point(7, 8));
        due("point where none is any more", 2, s.point(5, 6));
        due("point with x and y changed about", 3, s.point(6, 5));
        due("point with the same x", 4, s.point(5, 7));
        due("point with the same y", 5, s.point(6, 6));
    }

    @Sentence(of = "Promise 2", says = "or 60 have come")
    private static void promise02_sixtyHaveCome() {
        TriangleSheet s = withManyPoints(59);
        due("the 60th point", 59, s.point(511, 511));
        refused("a 61st point", STATE, s, () -> s.point(511, 510));
        refused("a 61st point where one is", STATE, s, () -> s.point(511, 511));
    }

    // Promise 3: move.

    @Sentence(of = "Promise 3", says = "A point is at another place.")
    private static void promise03_toTheOutermostPlaces() {
        TriangleSheet s = one(100, 100, 200, 100, 100, 200);
        s.move(0, 0, 0);
        s.move(1, 511, 0);
        s.move(2, 0, 511);
        due("painted(3)", 511 * 511, s.painted(3));
        s.move(2, 511, 511);
        due("painted(3) again", 511 * 511, s.painted(3));
        due("locate(511, 511)", 0, s.locate(511, 511));
        due("count(0)", 3, s.count(0));
        dueCorners("move", s, 0, 0, 1, 2);
    }

    @Sentence(of = "Promise 3", says = "IndexOutOfBoundsException: no such point.")
    private static void promise03_noSuchPoint() {
        TriangleSheet s = one(100, 100, 200, 100, 100, 200);
        int[] none = {-1, 3, 59, 60, LEAST, MOST};
        for (int p : none) {
            refused("move(" + p + ", 1, 1)", INDEX, s, () -> s.move(p, 1, 1));
            refused("move(" + p + ", ..) to no place", INDEX, s, () -> s.move(p, -1, 512));
            refused("move(" + p + ", ..) to where one is", INDEX, s, () -> s.move(p, 100, 100));
        }
        TriangleSheet full = withManyPoints(60);
        full.move(59, 511, 511);
        refused("move(60, 1, 1) of 60", INDEX, full, () -> full.move(60, 1, 1));
    }

    @Sentence(of = "Promise 3", says = "IllegalArgumentException: no such place.")
    private static void promise03_noSuchPlace() {
        TriangleSheet s = one(100, 100, 200, 100, 100, 200);
        for (int off : NO_COORDINATES) {
            refused("move(0, " + off + ", 0)", ARGUMENT, s, () -> s.move(0, off, 0));
            refused("move(2, 511, " + off + ")", ARGUMENT, s, () -> s.move(2, 511, off));
        }
    }

    @Sentence(of = "Promise 3", says = "IllegalStateException: another one is there.")
    private static void promise03_anotherOneIsThere() {
        TriangleSheet s = one(100, 100, 200, 100, 100, 200);
        refused("move to the next one", STATE, s, () -> s.move(0, 200, 100));
        refused("move to the one before", STATE, s, () -> s.move(2, 100, 100));
        s.move(0, 100, 100);
        due("painted(3) after a move to its own place", 10000, s.painted(3));
        s.move(1, 300, 100);
        s.move(0, 200, 100);
        due("painted(3) after a move to a place left", 10000, s.painted(3));
        TriangleSheet full = withManyPoints(60);
        refused("move to the last of 60", STATE, full, () -> full.move(0, 455, 400));
        full.move(59, 455, 400);
        due("count(0) after moves of 60", 60, full.count(0));
    }

    // Promise 4: triangle.

    @Sentence(of = "Promise 4", says = "A triangle comes: its number.")
    private static void promise04_whetherRightOrNot() {
        TriangleSheet s = withPoints(0, 0, 100, 0, 0, 100, 200, 0);
        due("one that is RIGHT", 0, s.triangle(0, 1, 2));
        due("its mirror", 1, s.triangle(0, 2, 1));
        due("one that is flat", 2, s.triangle(0, 1, 3));
        due("the first one again", 3, s.triangle(0, 1, 2));
        due("the first one from another corner on", 4, s.triangle(2, 0, 1));
        refused("triangle(0, 0, 1)", ARGUMENT, s, () -> s.triangle(0, 0, 1));
        s.take(4);
        due("the number goes on after take", 5, s.triangle(1, 2, 0));
        dueCorners("triangle(1, 2, 0)", s, 5, 1, 2, 0);
    }

    @Sentence(of = "Promise 4", says = "IndexOutOfBoundsException: no such points.")
    private static void promise04_noSuchPoints() {
        TriangleSheet s = withPoints(0, 0, 100, 0, 0, 100);
        int[] none = {-1, 3, 59, 60, LEAST, MOST};
        for (int p : none) {
            refused("triangle(" + p + ", 1, 2)", INDEX, s, () -> s.triangle(p, 1, 2));
            refused("triangle(0, " + p + ", 2)", INDEX, s, () -> s.triangle(0, p, 2));
            refused("triangle(0, 1, " + p + ")", INDEX, s, () -> s.triangle(0, 1, p));
        }
        refused("triangle(3, 3, 0)", INDEX, s, () -> s.triangle(3, 3, 0));
        refused("triangle(0, 0, 3)", INDEX, s, () -> s.triangle(0, 0, 3));
        due("triangle of the first and the last", 0, s.triangle(0, 1, 2));
        TriangleSheet full = withManyThere(60);
        refused("triangle(0, 1, 3) with 60 there", INDEX, full, () -> full.triangle(0, 1, 3));
    }

    @Sentence(of = "Promise 4", says = "IllegalArgumentException: two are one.")
    private static void promise04_twoAreOne() {
        TriangleSheet s = withPoints(0, 0, 100, 0, 0, 100);
        refused("triangle(1, 1, 2)", ARGUMENT, s, () -> s.triangle(1, 1, 2));
        refused("triangle(1, 2, 2)", ARGUMENT, s, () -> s.triangle(1, 2, 2));
        refused("triangle(1, 2, 1)", ARGUMENT, s, () -> s.triangle(1, 2, 1));
        refused("triangle(0, 0, 0)", ARGUMENT, s, () -> s.triangle(0, 0, 0));
        TriangleSheet full = withManyThere(60);
        refused("triangle(0, 0, 1) with 60 there", ARGUMENT, full, () -> full.triangle(0, 0, 1));
    }

    @Sentence(of = "Promise 4", says = "IllegalStateException: 60 are there")
    private static void promise04_sixtyAreThere() {
        TriangleSheet s = withManyThere(59);
        due("the 60th", 59, s.triangle(0, 1, 2));
        refused("a 61st", STATE, s, () -> s.triangle(0, 1, 2));
        s.take(0);
        due("one more after take", 60, s.triangle(0, 1, 2));
        refused("a 61st there again", STATE, s, () -> s.triangle(0, 1, 2));
    }

    @Sentence(of = "Promise 4", says = "or 200 have come")
    private static void promise04_twoHundredHaveCome() {
        TriangleSheet s = withManyCome(199);
        due("the 200th", 199, s.triangle(0, 1, 2));
        refused("a 201st", STATE, s, () -> s.triangle(0, 1, 2));
        s.take(199);
        s.take(198);
        refused("a 201st with none there", STATE, s, () -> s.triangle(0, 1, 2));
    }

    // Promise 5: take.

    @Sentence(of = "Promise 5", says = "A triangle goes.")
    private static void promise05_theFirstTheMiddleAndTheLastOf60() {
        TriangleSheet s = withManyThere(60);
        int[] gone = {30, 59, 0};
        for (int i = 0; i < 3; i++) {
            s.take(gone[i]);
            due("corner of " + gone[i], NONE, s.corner(gone[i], 0));
            due("count(1)", 59 - i, s.count(1));
        }
        due("count(2)", 60, s.count(2));
        due("the least", 1, s.locate(5, 5));
        due("covers", 57, s.covers(0, 0));
        due("corner beside the one gone", 0, s.corner(31, 0));
        due("corner of the last", 0, s.corner(58, 0));
        TriangleSheet last = one(0, 0, 64, 0, 0, 64);
        last.take(0);
        due("count(1) with none left", 0, last.count(1));
        due("fault() with none left", 0, last.fault());
        due("count(0) with none left", 3, last.count(0));
    }

    @Sentence(of = "Promise 5", says = "IndexOutOfBoundsException: it is not there.")
    private static void promise05_itIsNotThere() {
        TriangleSheet s = square(0, 64);
        int[] none = {-1, 2, 59, 60, 199, 200, LEAST, MOST};
        for (int t : none) {
            refused("take(" + t + ")", INDEX, s, () -> s.take(t));
        }
        s.take(0);
        refused("take(0) again", INDEX, s, () -> s.take(0));
        TriangleSheet many = withManyCome(200);
        refused("take(198) of 200", INDEX, many, () -> many.take(198));
        refused("take(200) of 200", INDEX, many, () -> many.take(200));
        many.take(199);
        due("count(1) after take(199)", 0, many.count(1));
    }

    // Promise 6: part.

    @Sentence(of = "Promise 6",
            says = "t's corners are a, b, p, two new ones' b, c, p and c, a, p, in this order: the point's number.")
    private static void promise06_theCornersInThisOrder() {
        TriangleSheet s = withPoints(500, 500, 0, 0, 64, 0, 0, 64);
        s.triangle(0, 1, 2);
        s.triangle(2, 3, 1);
        s.triangle(1, 3, 2);
        s.take(0);
        due("part(1, 20, 20)", 4, s.part(1, 20, 20));
        dueCorners("part", s, 1, 2, 3, 4);
        dueCorners("part", s, 3, 3, 1, 4);
        dueCorners("part", s, 4, 1, 2, 4);
        dueCorners("part", s, 2, 1, 3, 2);
        due("count(1)", 4, s.count(1));
        due("count(2)", 5, s.count(2));
    }

    @Sentence(of = "Promise 6", says = "A new point at a place within t")
    private static void promise06_theOnlyPlaceWithin() {
        TriangleSheet s = one(0, 0, 2, 1, 1, 2);
        due("part(0, 1, 1)", 3, s.part(0, 1, 1));
        due("fault()", 0, s.fault());
        due("painted(3)", 3, s.painted(3));
        due("locate(1, 1)", 0, s.locate(1, 1));
    }

    @Sentence(of = "Promise 6", says = "IndexOutOfBoundsException: it is not there.")
    private static void promise06_itIsNotThere() {
        TriangleSheet s = square(0, 64);
        s.take(0);
        int[] none = {-1, 0, 2, 199, 200, LEAST, MOST};
        for (int t : none) {
            refused("part(" + t + ", 40, 20)", INDEX, s, () -> s.part(t, 40, 20));
            refused("part(" + t + ", ..) at no place", INDEX, s, () -> s.part(t, -1, 512));
        }
    }

    @Sentence(of = "Promise 6", says = "IllegalArgumentException: one of these is not RIGHT")
    private static void promise06_oneIsNotRight() {
        TriangleSheet s = one(0, 10, 60, 10, 30, 70);
        int[][] places = {{30, 10}, {30, 9}, {45, 40}, {46, 40}, {15, 40}, {14, 40}, {0, 10}, {60, 10}, {30, 70}};
        for (int[] place : places) {
            refused("part(0, " + place[0] + ", " + place[1] + ")", ARGUMENT, s, () -> s.part(0, place[0], place[1]));
        }
        due("part one place beside edge 0", 3, s.part(0, 30, 11));

        TriangleSheet mirror = one(0, 10, 30, 70, 60, 10);
        refused("part of a mirror", ARGUMENT, mirror, () -> mirror.part(0, 30, 30));
        TriangleSheet flat = one(0, 10, 60, 10, 30, 10);
        refused("part of a flat one", ARGUMENT, flat, () -> flat.part(0, 20, 10));
        TriangleSheet full = withManyThere(60);
        refused("part outside with 60 there", ARGUMENT, full, () -> full.part(0, 200, 200));
    }

    @Sentence(of = "Promise 6", says = "or there is no such place")
    private static void promise06_noSuchPlace() {
        TriangleSheet s = one(0, 0, 511, 0, 0, 511);
        for (int off : NO_COORDINATES) {
            refused("part(0, " + off + ", 5)", ARGUMENT, s, () -> s.part(0, off, 5));
            refused("part(0, 5, " + off + ")", ARGUMENT, s, () -> s.part(0, 5, off));
        }
        TriangleSheet seeming = withManyThere(1);
        for (int[] place : SEEM_WITHIN) {
            int x = place[0];
            int y = place[1];
            refused("part(0, " + x + ", " + y + ")", ARGUMENT, seeming, () -> seeming.part(0, x, y));
        }
    }

    @Sentence(of = "Promise 6", says = "IllegalStateException: a point")
    private static void promise06_aPointMoreThanCanBe() {
        TriangleSheet s = withManyPoints(59);
        s.triangle(0, 9, 50);
        due("part with the 60th point", 59, s.part(0, 77, 77));
        refused("part with a 61st point", STATE, s, () -> s.part(0, 77, 10));
        TriangleSheet taken = one(0, 0, 64, 0, 0, 64);
        taken.point(20, 20);
        refused("part where a point is", STATE, taken, () -> taken.part(0, 20, 20));
        due("part beside that point", 4, taken.part(0, 20, 21));
    }

    @Sentence(of = "Promise 6", says = "or two triangles more than can be")
    private static void promise06_twoTrianglesMoreThanCanBe() {
        TriangleSheet there = withManyThere(58);
        due("part with 58 there", 3, there.part(57, 10, 20));
        due("count(1) then", 60, there.count(1));
        refused("part with 60 there", STATE, there, () -> there.part(0, 20, 10));
        there.take(59);
        refused("part with 59 there", STATE, there, () -> there.part(0, 20, 10));
        there.take(58);
        due("part with 58 there again", 4, there.part(0, 20, 10));

        TriangleSheet came = withManyCome(198);
        due("part with 198 come", 3, came.part(197, 10, 20));
        due("count(2) then", 200, came.count(2));
        refused("part with 200 come", STATE, came, () -> came.part(199, 5, 12));
        TriangleSheet odd = withManyCome(199);
        refused("part with 199 come", STATE, odd, () -> odd.part(198, 10, 20));
        due("one alone can come", 199, odd.triangle(0, 1, 2));
    }

    // Promise 7: turn.

    @Sentence(of = "Promise 7", says = "An edge is TURNED, if it can be: whether.")
    private static void promise07_turnedWhetherGoodOrNot() {
        TriangleSheet s = square(0, 64);
        due("turn without a neighbour", false, s.turn(0, 0));
        due("turn without a neighbour, edge 1", false, s.turn(0, 1));
        dueCorners("turn without a neighbour", s, 0, 0, 1, 2);
        due("turn of a GOOD edge", true, s.turn(0, 2));
        dueCorners("turn of a GOOD edge", s, 0, 1, 2, 3);
        dueCorners("turn of a GOOD edge", s, 1, 3, 0, 1);
        TriangleSheet bad = flatSquare();
        due("turn of one that is not GOOD", true, bad.turn(1, 2));
        dueCorners("turn of one that is not GOOD", bad, 1, 3, 0, 1);
        TriangleSheet mirror = one(0, 0, 64, 0, 0, 64);
        mirror.triangle(1, 0, 2);
        due("turn beside a mirror", false, mirror.turn(0, 0));
        dueCorners("turn beside a mirror", mirror, 0, 0, 1, 2);
    }

    @Sentence(of = "Promise 7", says = "IndexOutOfBoundsException: the triangle is not there")
    private static void promise07_theTriangleIsNotThere() {
        TriangleSheet s = square(0, 64);
        int[] none = {-1, 2, 59, 60, 199, 200, LEAST, MOST};
        for (int t : none) {
            refused("turn(" + t + ", 0)", INDEX, s, () -> s.turn(t, 0));
        }
        s.take(0);
        refused("turn(0, 2) of what is gone", INDEX, s, () -> s.turn(0, 2));
    }

    @Sentence(of = "Promise 7", says = "or k is not 0 .. 2")
    private static void promise07_kIsNotAnEdge() {
        TriangleSheet s = square(0, 64);
        int[] none = {-1, 3, 5, -3, LEAST, MOST};
        for (int k : none) {
            refused("turn(0, " + k + ")", INDEX, s, () -> s.turn(0, k));
            refused("turn(9, " + k + ")", INDEX, s, () -> s.turn(9, k));
        }
        due("turn(0, 0)", false, s.turn(0, 0));
        due("turn(0, 1)", false, s.turn(0, 1));
        due("turn(0, 2)", true, s.turn(0, 2));
    }

    // Promise 8: improve.

    /** A fan from the last of eight points: no edge between its triangles is GOOD, and it takes 15 turns. */
    private static TriangleSheet fan() {
        TriangleSheet s = withPoints(190, 191, 192, 168, 209, 77, 222, 41, 236, 19, 250, 9, 297, 61, 198, 384);
        for (int p = 0; p < 6; p++) {
            s.triangle(p, p + 1, 7);
        }
        return s;
    }

    /** Points 0 to 3 of a flat square that is parted by its long way. */
    private static TriangleSheet flatSquare() {
        TriangleSheet s = withPoints(100, 50, 200, 40, 300, 50, 200, 60);
        s.triangle(0, 1, 2);
        s.triangle(2, 3, 0);
        return s;
    }

    /** Sixty points round a long hull and a fan from the last one: it takes 567 turns until all are GOOD. */
    private static TriangleSheet longWork() {
        TriangleSheet s = withPoints(198, 384, 194, 355, 191, 325, 189, 296, 188, 268, 188, 241, 189, 215, 190, 191,
                192, 168, 195, 147, 198, 127, 201, 109, 205, 92, 209, 77, 213, 63, 217, 52, 222, 41, 226, 33, 231, 25,
                236, 19, 240, 15, 245, 11, 250, 9, 254, 8, 259, 9, 263, 10, 268, 12, 272, 16, 276, 20, 280, 25,
                284, 31, 287, 37, 291, 44, 294, 52, 297, 61, 300, 70, 303, 79, 305, 89, 308, 99, 310, 110, 312, 121,
                314, 132, 316, 143, 317, 155, 318, 167, 320, 178, 321, 190, 321, 202, 322, 214, 323, 226, 323, 238,
                323, 250, 306, 418, 281, 484, 261, 502, 244, 499, 231, 485, 220, 465, 211, 440, 203, 413);
        for (int p = 0; p < 58; p++) {
            s.triangle(p, p + 1, 59);
        }
        return s;
    }

    @Sentence(of = "Promise 8", says = "at most n times")
    private static void promise08_atMostNTimes() {
        TriangleSheet s = longWork();
        due("improve(0)", 0, s.improve(0));
        dueCorners("improve(0)", s, 0, 0, 1, 59);
        due("improve(1)", 1, s.improve(1));
        due("improve(2)", 2, s.improve(2));
        due("improve(500), the most", 500, s.improve(500));
        due("isGood of some edge is false still", true, s.count(7) > 0);
        due("improve(64), just enough", 64, s.improve(64));
        due("count(7)", 0, s.count(7));
        due("fault()", 0, s.fault());
    }

    @Sentence(of = "Promise 8", says = "how often")
    private static void promise08_howOften() {
        TriangleSheet s = longWork();
        due("improve(500)", 500, s.improve(500));
        due("improve(500), more than it takes", 67, s.improve(500));
        due("improve(500) of what is GOOD", 0, s.improve(500));
        due("improve(1) of what is GOOD", 0, s.improve(1));
        due("improve(500) of four on a circle", 0, square(0, 64).improve(500));
        due("improve(500) of one edge", 1, flatSquare().improve(500));
    }

    @Sentence(of = "Promise 8",
            says = "the first edge that is not GOOD and can be TURNED (by triangles, then k) is TURNED")
    private static void promise08_theFirstByTrianglesThenK() {
        TriangleSheet byTriangles = fan();
        due("isGood(0, 1)", false, byTriangles.isGood(0, 1));
        due("isGood(1, 1)", false, byTriangles.isGood(1, 1));
        due("improve(1) of a fan", 1, byTriangles.improve(1));
        dueCorners("improve(1) of a fan", byTriangles, 0, 0, 1, 2);
        dueCorners("improve(1) of a fan", byTriangles, 1, 2, 7, 0);
        dueCorners("improve(1) of a fan", byTriangles, 2, 2, 3, 7);

        TriangleSheet byK = withPoints(100, 100, 300, 100, 200, 270, 200, 80, 260, 200, 140, 200);
        byK.triangle(0, 1, 2);
        byK.triangle(2, 1, 4);
        byK.triangle(1, 0, 3);
        due("isGood(0, 0)", false, byK.isGood(0, 0));
        due("isGood(0, 1)", false, byK.isGood(0, 1));
        due("improve(1) by k", 1, byK.improve(1));
        dueCorners("improve(1) by k", byK, 0, 2, 0, 3);
        dueCorners("improve(1) by k", byK, 1, 2, 1, 4);
        dueCorners("improve(1) by k", byK, 2, 3, 1, 2);
    }

    @Sentence(of = "Promise 8", says = "that is not GOOD and can be TURNED")
    private static void promise08_whatCannotBeTurnedIsLeftOut() {
        // Triangle 0 is not RIGHT: its edge 0 is not GOOD and can't be turned, its edge 1 can.
        TriangleSheet s = withPoints(30, 170, 30, 100, 290, 290, 250, 170, 290, 140);
        s.triangle(0, 1, 2);
        s.triangle(1, 0, 3);
        s.triangle(2, 1, 4);
        due("isGood(0, 0)", false, s.isGood(0, 0));
        due("turn(0, 0)", false, s.turn(0, 0));
        due("improve(500) past edge 0", 1, s.improve(500));
        dueCorners("improve(500) past edge 0", s, 0, 0, 1, 4);
        dueCorners("improve(500) past edge 0", s, 1, 1, 0, 3);
        dueCorners("improve(500) past edge 0", s, 2, 4, 2, 0);
        due("count(7) of what cannot be turned", 2, s.count(7));

        // The first edge can be turned, but is GOOD.
        TriangleSheet good = square(300, 364);
        good.point(100, 50);
        good.point(200, 40);
        good.point(300, 50);
        good.point(200, 60);
        good.triangle(4, 5, 6);
        good.triangle(6, 7, 4);
        due("improve(500) past a GOOD edge", 1, good.improve(500));
        dueCorners("improve(500) past a GOOD edge", good, 0, 0, 1, 2);
        dueCorners("improve(500) past a GOOD edge", good, 2, 5, 6, 7);
    }

    @Sentence(of = "Promise 8", says = "Again and again")
    private static void promise08_againFromTheFirstOn() {
        TriangleSheet s = fan();
        TriangleSheet byHand = fan();
        due("improve(500)", 15, s.improve(500));
        int turns = 0;
        while (turns < 16 && turnTheFirst(byHand)) {
            turns++;
        }
        due("turns by hand", 15, turns);
        for (int t = 0; t < 6; t++) {
            dueCorners("improve(500)", s, t, byHand.corner(t, 0), byHand.corner(t, 1), byHand.corner(t, 2));
        }
    }

    private static boolean turnTheFirst(TriangleSheet s) {
        for (int t = 0; t < 6; t++) {
            for (int k = 0; k < 3; k++) {
                if (!s.isGood(t, k) && s.turn(t, k)) {
                    return true;
                }
            }
        }
        return false;
    }

    @Sentence(of = "Promise 8", says = "IllegalArgumentException: n is not 0 .. 500.")
    private static void promise08_nIsNot0To500() {
        TriangleSheet s = fan();
        int[] off = {-1, 501, LEAST, MOST};
        for (int n : off) {
            refused("improve(" + n + ")", ARGUMENT, s, () -> s.improve(n));
            dueCorners("improve(" + n + ")", s, 0, 0, 1, 7);
        }
        due("improve(0)", 0, s.improve(0));
        due("improve(500)", 15, s.improve(500));
    }

    // Promise 9: fault.

    @Sentence(of = "Promise 9", says = "0 if the sheet is SOUND")
    private static void promise09_soundWithNoneAndWithSixty() {
        due("fault() of a new sheet", 0, new TriangleSheet().fault());
        TriangleSheet s = withPoints(0, 0, 511, 0, 0, 511);
        for (int t = 0; t < 29; t++) {
            s.point(10 + 5 * t, 10 + 5 * t);
        }
        s.triangle(0, 1, 2);
        for (int p = 3; p < 32; p++) {
            // Each new pair hangs on the edge from 1 to 2, which moves up with the points.
            int last = p == 3 ? 0 : p - 1;
            s.take(s.locate(250, 261));
            s.triangle(last, 1, p);
            s.triangle(last, p, 2);
            s.triangle(1, 2, p);
        }
        due("count(1)", 59, s.count(1));
        due("fault() of 59", 0, s.fault());
        s.point(511, 511);
        s.triangle(1, 32, 2);
        due("fault() of 60", 0, s.fault());
        due("culprit(0)", NONE, s.culprit(0));
        s.move(31, 129, 129);
        due("fault() of 60 with a point moved down", 1, s.fault());
    }

    @Sentence(of = "Promise 9", says = "triangles there by their numbers")
    private static void promise09_byNumbersOfThoseThere() {
        TriangleSheet s = withPoints(0, 0, 64, 0, 0, 64, 300, 300, 400, 300, 300, 400);
        s.triangle(0, 2, 1);
        s.triangle(0, 1, 2);
        s.triangle(3, 5, 4);
        s.triangle(3, 4, 5);
        due("fault() with 0 and 2 not RIGHT", 1, s.fault());
        due("culprit(0)", 0, s.culprit(0));
        s.take(0);
        due("fault() with 2 not RIGHT", 1, s.fault());
        due("culprit(0) then", 2, s.culprit(0));
        s.take(2);
        due("fault() with none left that is not RIGHT", 0, s.fault());
        s.triangle(0, 1, 2);
        due("fault() with 4 as 1", 2, s.fault());
        due("culprit(0) of 4 as 1", 4, s.culprit(0));
        due("culprit(1) of 4 as 1", 1, s.culprit(1));
        s.take(1);
        due("fault() without 1", 0, s.fault());
    }

    @Sentence(of = "Promise 9", says = "of each first 1 if it is not RIGHT")
    private static void promise09_firstWhetherItIsRight() {
        TriangleSheet s = square(0, 64);
        s.triangle(0, 1, 2);
        s.triangle(2, 1, 0);
        due("fault(): 2 of a lesser one before 1 of a greater one", 2, s.fault());
        due("culprit(0)", 2, s.culprit(0));
        s.take(2);
        due("fault(): 1 of the one left", 1, s.fault());
        due("culprit(0) of the one left", 3, s.culprit(0));
        TriangleSheet flat = withPoints(0, 0, 64, 0, 0, 64, 10, 0, 20, 0, 30, 0);
        flat.triangle(0, 1, 2);
        flat.triangle(3, 4, 5);
        due("fault(): 1 of a flat one on another's edge", 1, flat.fault());
        due("culprit(0) of a flat one", 1, flat.culprit(0));
        TriangleSheet before = withPoints(0, 0, 64, 0, 0, 64);
        before.triangle(0, 2, 1);
        before.triangle(0, 1, 2);
        before.triangle(0, 1, 2);
        due("fault(): 1 of a lesser one before 2 of greater ones", 1, before.fault());
        due("culprit(0) of a lesser one", 0, before.culprit(0));
    }

    @Sentence(of = "Promise 9",
            says = "then, with RIGHT ones of lesser numbers, these in order, 2 if they are not TIDY")
    private static void promise09_withLesserOnesInOrder() {
        TriangleSheet s = withPoints(0, 0, 64, 0, 0, 64, 200, 0, 264, 0, 200, 64, 300, 300, 301, 300, 300, 301);
        s.triangle(6, 7, 8);
        s.triangle(3, 4, 5);
        s.triangle(0, 1, 2);
        s.point(10, 10);
        s.point(210, 5);
        s.point(210, 10);
        s.triangle(9, 10, 11);
        due("fault() with two that 3 is not TIDY with", 2, s.fault());
        due("culprit(0)", 3, s.culprit(0));
        due("culprit(1), the lesser of the two", 1, s.culprit(1));
        s.take(1);
        due("fault() with one of them gone", 2, s.fault());
        due("culprit(1) then", 2, s.culprit(1));
        s.take(2);
        due("fault() with both gone", 0, s.fault());
    }

    // Promise 10: culprit.

    @Sentence(of = "Promise 10", says = "Of the latest fault() that was not 0")
    private static void promise10_ofTheLatestThatWasNot0() {
        TriangleSheet s = square(0, 64);
        s.triangle(0, 1, 2);
        due("culprit(0) before fault()", NONE, s.culprit(0));
        due("fault()", 2, s.fault());
        s.take(2);
        due("culprit(0) with the triangle gone", 2, s.culprit(0));
        due("fault() then", 0, s.fault());
        due("culprit(0) after a 0", 2, s.culprit(0));
        due("culprit(1) after a 0", 0, s.culprit(1));
        s.triangle(0, 2, 3);
        due("culprit(0) before the next fault()", 2, s.culprit(0));
        due("the next fault()", 2, s.fault());
        due("culprit(0) of the next", 3, s.culprit(0));
        due("culprit(1) of the next", 1, s.culprit(1));
    }

    @Sentence(of = "Promise 10", says = "the other one (1; NONE for 1)")
    private static void promise10_noOtherOneFor1() {
        TriangleSheet s = square(0, 64);
        s.triangle(0, 1, 2);
        due("fault()", 2, s.fault());
        due("culprit(0)", 2, s.culprit(0));
        due("culprit(1)", 0, s.culprit(1));
        s.take(2);
        s.triangle(2, 1, 0);
        due("fault() of a mirror", 1, s.fault());
        due("culprit(0) of a mirror", 3, s.culprit(0));
        due("culprit(1) of a mirror", NONE, s.culprit(1));
    }

    @Sentence(of = "Promise 10", says = "NONE without")
    private static void promise10_noneWithout() {
        TriangleSheet s = square(0, 64);
        due("culprit(0)", NONE, s.culprit(0));
        due("culprit(1)", NONE, s.culprit(1));
        due("fault()", 0, s.fault());
        due("culprit(0) after a 0", NONE, s.culprit(0));
        due("culprit(1) after a 0", NONE, s.culprit(1));
    }

    @Sentence(of = "Promise 10", says = "or for another which")
    private static void promise10_noneForAnotherWhich() {
        TriangleSheet s = square(0, 64);
        s.triangle(0, 2, 3);
        due("fault()", 2, s.fault());
        int[] off = {-1, 2, LEAST, MOST};
        for (int which : off) {
            due("culprit(" + which + ")", NONE, s.culprit(which));
        }
    }

    // Promises 11 and 12: covers and who.

    @Sentence(of = "Promise 11", says = "How many triangles COVER a pixel's sample")
    private static void promise11_fromNoneToSixty() {
        TriangleSheet s = withManyThere(60);
        due("covers by 60", 60, s.covers(0, 0));
        due("covers by none", 0, s.covers(31, 31));
        s.take(59);
        s.triangle(2, 1, 0);
        due("covers by 59 and a mirror", 59, s.covers(0, 0));
    }

    @Sentence(of = "Promise 11", says = "0 for none such")
    private static void promise11_noSuchPixel() {
        TriangleSheet s = square(0, 511);
        due("covers(0, 0)", 1, s.covers(0, 0));
        due("covers(31, 31)", 1, s.covers(31, 31));
        due("covers(31, 0)", 1, s.covers(31, 0));
        due("covers(0, 31)", 1, s.covers(0, 31));
        for (int off : NO_PIXELS) {
            due("covers(" + off + ", 0)", 0, s.covers(off, 0));
            due("covers(0, " + off + ")", 0, s.covers(0, off));
        }
        // 16 times these goes round to 0, as an int.
        int[] round = {1 << 28, -(1 << 28)};
        for (int off : round) {
            due("covers(" + off + ", 0)", 0, s.covers(off, 0));
            due("covers(1, " + off + ")", 0, s.covers(1, off));
        }
    }

    @Sentence(of = "Promise 12", says = "The least triangle that COVERS it")
    private static void promise12_theLeast() {
        TriangleSheet s = withManyThere(60);
        due("who of 60", 0, s.who(0, 0));
        s.take(0);
        due("who without 0", 1, s.who(0, 0));
        s.triangle(0, 1, 2);
        due("who with 60", 1, s.who(0, 0));
        TriangleSheet mirror = one(0, 0, 0, 300, 300, 0);
        mirror.triangle(0, 2, 1);
        due("who, the lesser one being not RIGHT", 1, mirror.who(0, 0));
    }

    @Sentence(of = "Promise 12", says = "NONE.")
    private static void promise12_noneCoversIt() {
        TriangleSheet s = square(0, 511);
        due("who(0, 0)", 0, s.who(0, 0));
        due("who(0, 31)", 1, s.who(0, 31));
        due("who(31, 31)", 0, s.who(31, 31));
        for (int off : NO_PIXELS) {
            due("who(" + off + ", 0)", NONE, s.who(off, 0));
            due("who(31, " + off + ")", NONE, s.who(31, off));
        }
        int[] round = {1 << 28, -(1 << 28)};
        for (int off : round) {
            due("who(" + off + ", 0)", NONE, s.who(off, 0));
            due("who(1, " + off + ")", NONE, s.who(1, off));
        }
        s.take(0);
        due("who(31, 0) with the triangle gone", NONE, s.who(31, 0));
        due("who of a new sheet", NONE, new TriangleSheet().who(0, 0));
    }

    // Promise 13: painted.

    @Sentence(of = "Promise 13", says = "how many are covered (what = 0)")
    private static void promise13_coveredFromNoneToAll() {
        due("painted(0) of none", 0, new TriangleSheet().painted(0));
        TriangleSheet s = square(0, 511);
        due("painted(0) of all", 1024, s.painted(0));
        s.triangle(0, 1, 2);
        due("painted(0) of all, some twice", 1024, s.painted(0));
        TriangleSheet small = square(8, 504);
        due("painted(0) with the rim on the outermost samples", 31 * 31, small.painted(0));
    }

    @Sentence(of = "Promise 13", says = "how many by more than one (1)")
    private static void promise13_byMoreThanOne() {
        TriangleSheet s = square(0, 511);
        due("painted(1) of all once", 0, s.painted(1));
        s.triangle(0, 1, 2);
        due("painted(1) with one twice", 32 * 33 / 2, s.painted(1));
        s.triangle(0, 1, 2);
        due("painted(1) with one thrice", 32 * 33 / 2, s.painted(1));
        s.triangle(0, 2, 3);
        due("painted(1) of all twice at least", 1024, s.painted(1));
        s.triangle(2, 1, 0);
        due("painted(1) with a mirror", 1024, s.painted(1));
    }

    @Sentence(of = "Promise 13", says = "the sum of covers() (2)")
    private static void promise13_theSumOfSixty() {
        TriangleSheet s = withPoints(0, 0, 511, 0, 511, 511, 0, 511);
        for (int t = 0; t < 30; t++) {
            s.triangle(0, 1, 2);
            s.triangle(0, 2, 3);
        }
        due("painted(2) of 60", 30 * 1024, s.painted(2));
        int sum = 0;
        for (int i = 0; i < 16; i++) {
            for (int j = 0; j < 16; j++) {
                sum += s.covers(2 * i, 2 * j + 1);
            }
        }
        due("a quarter of the covers()", 30 * 256, sum);
    }

    @Sentence(of = "Promise 13", says = "the sum of all RIGHT triangles' TURNs (3)")
    private static void promise13_theTurnsOfRightOnesAlone() {
        TriangleSheet s = withManyThere(59);
        s.triangle(2, 1, 0);
        due("painted(3) of 59 and a mirror", 59 * 90000, s.painted(3));
        s.take(0);
        due("painted(3) of 58", 58 * 90000, s.painted(3));
        TriangleSheet small = one(0, 0, 1, 0, 0, 1);
        due("painted(3) of the smallest", 1, small.painted(3));
        due("painted(0) of the smallest", 0, small.painted(0));
        TriangleSheet large = withPoints(0, 0, 511, 0, 0, 511);
        for (int t = 0; t < 60; t++) {
            large.triangle(0, 1, 2);
        }
        due("painted(3) of the 60 largest", 60L * 511 * 511, large.painted(3));
    }

    @Sentence(of = "Promise 13", says = "NONE for another what.")
    private static void promise13_anotherWhat() {
        TriangleSheet s = square(0, 511);
        int[] off = {-1, 4, LEAST, MOST};
        for (int what : off) {
            due("painted(" + what + ")", NONE, s.painted(what));
            due("painted(" + what + ") of none", NONE, new TriangleSheet().painted(what));
        }
    }

    // Promise 14: locate.

    @Sentence(of = "Promise 14", says = "The least RIGHT triangle that HAS a place")
    private static void promise14_theLeastRightOne() {
        TriangleSheet s = square(10, 74);
        due("locate on the edge between", 0, s.locate(42, 42));
        due("locate at a corner of both", 0, s.locate(74, 74));
        s.take(0);
        due("locate on the edge of the one left", 1, s.locate(42, 42));
        TriangleSheet crooked = withPoints(0, 0, 100, 0, 0, 100, 50, 0);
        crooked.triangle(0, 2, 1);
        crooked.triangle(0, 3, 1);
        due("locate in what is not RIGHT", NONE, crooked.locate(20, 20));
        due("locate at a corner of what is not RIGHT", NONE, crooked.locate(0, 100));
        due("locate on what is flat", NONE, crooked.locate(20, 0));
        crooked.triangle(0, 1, 2);
        due("locate in a greater one that is RIGHT", 2, crooked.locate(20, 20));
    }

    @Sentence(of = "Promise 14", says = "NONE.")
    private static void promise14_noneHasIt() {
        TriangleSheet s = square(0, 511);
        due("locate(0, 0)", 0, s.locate(0, 0));
        due("locate(511, 511)", 0, s.locate(511, 511));
        for (int off : NO_COORDINATES) {
            due("locate(" + off + ", 5)", NONE, s.locate(off, 5));
            due("locate(5, " + off + ")", NONE, s.locate(5, off));
            due("locate(" + off + ", " + off + ")", NONE, s.locate(off, off));
        }
        TriangleSheet seeming = withManyThere(1);
        for (int[] place : SEEM_WITHIN) {
            due("locate(" + place[0] + ", " + place[1] + ")", NONE, seeming.locate(place[0], place[1]));
        }
        due("locate just outside", NONE, square(1, 510).locate(0, 0));
        due("locate in a new sheet", NONE, new TriangleSheet().locate(0, 0));
    }

    // Promise 15: beside.

    @Sentence(of = "Promise 15", says = "The NEIGHBOUR by edge k")
    private static void promise15_byEachOfTheThreeEdges() {
        TriangleSheet s = withPoints(100, 100, 200, 100, 100, 200, 150, 50, 200, 200, 50, 150);
        s.triangle(0, 1, 2);
        s.triangle(0, 2, 5);
        s.triangle(1, 4, 2);
        s.triangle(3, 1, 0);
        due("beside(0, 0)", 3, s.beside(0, 0));
        due("beside(0, 1)", 2, s.beside(0, 1));
        due("beside(0, 2)", 1, s.beside(0, 2));
        due("beside(1, 0)", 0, s.beside(1, 0));
        due("beside(2, 2)", 0, s.beside(2, 2));
        due("beside(3, 1)", 0, s.beside(3, 1));
    }

    @Sentence(of = "Promise 15", says = "NONE without")
    private static void promise15_noNeighbour() {
        TriangleSheet s = square(0, 64);
        due("beside by the edge between", 1, s.beside(0, 2));
        due("beside by edge 0", NONE, s.beside(0, 0));
        due("beside by edge 1", NONE, s.beside(0, 1));
        s.triangle(0, 1, 2);
        due("beside the same again", NONE, s.beside(0, 0));
        s.take(1);
        due("beside by the edge between, the other gone", NONE, s.beside(0, 2));
        TriangleSheet alone = one(0, 0, 64, 0, 0, 64);
        for (int k = 0; k < 3; k++) {
            due("beside one alone by edge " + k, NONE, alone.beside(0, k));
        }
    }

    @Sentence(of = "Promise 15", says = "or for no such triangle or edge")
    private static void promise15_noSuchTriangleOrEdge() {
        TriangleSheet s = one(0, 0, 64, 0, 0, 64);
        s.triangle(2, 1, 0);
        for (int k = 0; k < 3; k++) {
            due("beside(0, " + k + ")", 1, s.beside(0, k));
        }
        for (int off : NO_EDGES) {
            due("beside(0, " + off + ")", NONE, s.beside(0, off));
            due("beside(" + off + ", 0)", NONE, s.beside(off, 0));
        }
        due("beside(2, 0)", NONE, s.beside(2, 0));
        due("beside(200, 0)", NONE, s.beside(200, 0));
        s.take(0);
        due("beside what is gone", NONE, s.beside(0, 0));
    }

    // Promise 16: isGood.

    @Sentence(of = "Promise 16", says = "Whether an edge is GOOD")
    private static void promise16_byEachOfTheThreeEdges() {
        TriangleSheet s = withPoints(100, 100, 200, 100, 100, 200, 150, 80, 200, 200, 81, 150);
        s.triangle(0, 1, 2);
        s.triangle(0, 2, 5);
        s.triangle(1, 4, 2);
        s.triangle(3, 1, 0);
        due("isGood(0, 1), on the circle", true, s.isGood(0, 1));
        s.move(3, 150, 79);
        due("isGood(0, 0), outside", true, s.isGood(0, 0));
        s.move(3, 150, 80);
        due("isGood(0, 0), within", false, s.isGood(0, 0));
        due("isGood(3, 1), within", false, s.isGood(3, 1));
        due("isGood(0, 2), within", false, s.isGood(0, 2));
        s.move(5, 79, 150);
        due("isGood(0, 2), outside", true, s.isGood(0, 2));
    }

    @Sentence(of = "Promise 16", says = "false for none such")
    private static void promise16_noSuchEdge() {
        TriangleSheet s = one(0, 0, 64, 0, 0, 64);
        for (int k = 0; k < 3; k++) {
            due("isGood(0, " + k + ")", true, s.isGood(0, k));
        }
        for (int off : NO_EDGES) {
            due("isGood(0, " + off + ")", false, s.isGood(0, off));
            due("isGood(" + off + ", 0)", false, s.isGood(off, 0));
        }
        due("isGood(1, 0)", false, s.isGood(1, 0));
        due("isGood(200, 0)", false, s.isGood(200, 0));
        s.take(0);
        due("isGood of what is gone", false, s.isGood(0, 0));
    }

    // Promise 17: corner.

    @Sentence(of = "Promise 17", says = "Corner k's point of a triangle")
    private static void promise17_ofTheLastPointsAndTriangle() {
        TriangleSheet s = withManyPoints(60);
        for (int t = 0; t < 200; t++) {
            s.triangle(t % 58, t % 58 + 2, t % 58 + 1);
            if (t < 199) {
                s.take(t);
            }
        }
        dueCorners("the 200th triangle", s, 199, 25, 27, 26);
        TriangleSheet last = withManyPoints(60);
        last.triangle(59, 57, 58);
        dueCorners("a triangle of the last points", last, 0, 59, 57, 58);
        last.move(59, 511, 511);
        dueCorners("a triangle whose point was moved", last, 0, 59, 57, 58);
    }

    @Sentence(of = "Promise 17", says = "NONE if there is none such")
    private static void promise17_noSuchCorner() {
        TriangleSheet s = withPoints(0, 0, 64, 0, 64, 64, 0, 64);
        s.triangle(3, 1, 2);
        dueCorners("triangle(3, 1, 2)", s, 0, 3, 1, 2);
        for (int off : NO_EDGES) {
            due("corner(0, " + off + ")", NONE, s.corner(0, off));
            due("corner(" + off + ", 0)", NONE, s.corner(off, 0));
        }
        due("corner(1, 0)", NONE, s.corner(1, 0));
        due("corner(200, 0)", NONE, s.corner(200, 0));
        s.take(0);
        due("corner of what is gone", NONE, s.corner(0, 0));
    }

    // Promise 18: count.

    @Sentence(of = "Promise 18", says = "Points that came (what = 0)")
    private static void promise18_pointsThatCame() {
        TriangleSheet s = withManyPoints(59);
        s.triangle(0, 9, 50);
        due("count(0) of 59", 59, s.count(0));
        s.part(0, 77, 77);
        due("count(0) of 60", 60, s.count(0));
        s.take(0);
        due("count(0) after take", 60, s.count(0));
    }

    @Sentence(of = "Promise 18", says = "triangles there (1), that came (2)")
    private static void promise18_trianglesThereAndThatCame() {
        TriangleSheet s = withManyCome(200);
        due("count(1) of one left", 1, s.count(1));
        due("count(2) of 200", 200, s.count(2));
        s.take(199);
        due("count(1) of none left", 0, s.count(1));
        due("count(2) of none left", 200, s.count(2));
        due("count(1) of 60", 60, withManyThere(60).count(1));
    }

    @Sentence(of = "Promise 18", says = "points that are corners (3)")
    private static void promise18_pointsThatAreCorners() {
        TriangleSheet s = withManyPoints(60);
        due("count(3) of points alone", 0, s.count(3));
        for (int t = 0; t < 20; t++) {
            s.triangle(3 * t, 3 * t + 1, 3 * t + 2);
        }
        due("count(3) of all 60", 60, s.count(3));
        s.triangle(0, 59, 30);
        due("count(3) of corners of two", 60, s.count(3));
        s.take(19);
        due("count(3) with one that is a corner still", 58, s.count(3));
    }

    @Sentence(of = "Promise 18", says = "edges (of two points, each once; 4)")
    private static void promise18_edgesEachOnce() {
        TriangleSheet s = one(0, 0, 64, 0, 0, 64);
        due("count(4) of one", 3, s.count(4));
        s.triangle(1, 2, 0);
        due("count(4) of one twice", 3, s.count(4));
        s.triangle(2, 1, 0);
        due("count(4) with a mirror", 3, s.count(4));
        due("count(4) of two with an edge in common", 5, square(0, 64).count(4));
        TriangleSheet many = withManyPoints(60);
        for (int p = 0; p < 60; p++) {
            many.triangle(p, (p + 1) % 60, (p + 3) % 60);
        }
        due("count(4) of 60", 180, many.count(4));
    }

    @Sentence(of = "Promise 18", says = "edges without a NEIGHBOUR (by triangles; 5)")
    private static void promise18_edgesWithoutANeighbour() {
        due("count(5) of one", 3, one(0, 0, 64, 0, 0, 64).count(5));
        TriangleSheet s = square(0, 64);
        due("count(5) of two", 4, s.count(5));
        s.triangle(0, 1, 2);
        due("count(5) with one twice: its edges count again", 6, s.count(5));
        s.triangle(2, 1, 0);
        due("count(5) with a mirror", 2, s.count(5));
        due("count(5) of 60 the same", 180, withManyThere(60).count(5));
    }

    @Sentence(of = "Promise 18", says = "pieces that hang together by NEIGHBOURS, either way (6)")
    private static void promise18_piecesEitherWay() {
        due("count(6) of one", 1, one(0, 0, 64, 0, 0, 64).count(6));
        due("count(6) of 60 the same", 60, withManyThere(60).count(6));
        // 2 has the neighbour 0, but 0's own is 1.
        TriangleSheet s = withPoints(100, 100, 200, 100, 150, 200, 150, 20, 150, 30);
        s.triangle(0, 1, 2);
        s.triangle(1, 0, 3);
        s.triangle(1, 0, 4);
        due("beside(0, 0)", 1, s.beside(0, 0));
        due("beside(2, 0)", 0, s.beside(2, 0));
        due("count(6) by a way there alone", 1, s.count(6));
        s.take(0);
        due("count(6) of two with an edge the same way round", 2, s.count(6));
        TriangleSheet corner = withPoints(100, 100, 200, 100, 100, 200, 0, 100, 100, 0);
        corner.triangle(0, 1, 2);
        corner.triangle(0, 3, 4);
        due("count(6) of two with a corner in common", 2, corner.count(6));
        due("count(6) of 58 in a row", 1, longWork().count(6));
    }

    @Sentence(of = "Promise 18", says = "edges that are not GOOD (by triangles; 7)")
    private static void promise18_edgesThatAreNotGood() {
        TriangleSheet s = square(0, 64);
        due("count(7) on the circle", 0, s.count(7));
        s.move(3, 1, 63);
        due("count(7) within: by both triangles", 2, s.count(7));
        s.triangle(0, 1, 2);
        due("count(7) with one twice", 3, s.count(7));
        s.take(1);
        due("count(7) without a neighbour", 0, s.count(7));
        due("count(7) of a fan", 10, fan().count(7));
    }

    @Sentence(of = "Promise 18", says = "NONE for another what.")
    private static void promise18_anotherWhat() {
        TriangleSheet s = square(0, 64);
        int[] off = {-1, 8, LEAST, MOST};
        for (int what : off) {
            due("count(" + what + ")", NONE, s.count(what));
            due("count(" + what + ") of none", NONE, new TriangleSheet().count(what));
        }
    }
}
