import java.util.Arrays;
import java.util.Set;
import java.util.TreeSet;

/** Each sentence of the document that names a boundary case, quoted, with a test of its own. */
public final class EdgeTest {
    private static final int[] FAR = {Integer.MIN_VALUE, Integer.MIN_VALUE + 1, -1000000007, 1000000007, Integer.MAX_VALUE};
    // What is at the five points of the cross, and its way, when it is home and behind one, two and three quarters.
    private static final String AT_CROSS = " 0/0 1/0 2/0 3/0 4/0";
    private static final String AT_TURNED_CROSS = " 3/9 0/9 1/9 2/9 4/9";
    private static final String AT_TWICE_TURNED = " 2/5 3/5 0/5 1/5 4/5";
    private static final String AT_THRICE_TURNED = " 1/12 2/12 3/12 0/12 4/12";
    private static final String[] AT_QUARTERS = {AT_CROSS, AT_TURNED_CROSS, AT_TWICE_TURNED, AT_THRICE_TURNED};
    private static String sentence = "";
    private static int wrong = 0;

    public static void main(String[] args) {
        whatItIs();
        pointTerms();
        planeTerms();
        axisTerms();
        turnTerms();
        newObject();
        pointPromise();
        cubePromise();
        planeAndAxisPromises();
        askingPromises();
        turnPromise();
        contentsPromises();
        mapsPromise();
        cyclePromise();
        roundsPromise();
        keepPromise();
        backPromise();
        farNumbersDoNothing();
        System.out.println(wrong == 0 ? "all edges hold" : wrong + " answers are not as due");
        if (wrong != 0) System.exit(1);
    }

    private static void sentence(String text) {
        sentence = text;
    }

    private static void due(String call, long got, long want) {
        if (got != want) {
            wrong++;
            System.out.println("\"" + sentence + "\": " + call + " answered " + got + ", due is " + want);
        }
    }

    private static void due(String call, boolean got, boolean want) {
        due(call, got ? 1 : 0, want ? 1 : 0);
    }

    private static void dueAlike(String what, String got, String want) {
        if (!got.equals(want)) {
            wrong++;
            System.out.println("\"" + sentence + "\": " + what + " answered" + got + ", due is" + want);
        }
    }

    private static boolean within(int value, int limit) {
        return -limit <= value && value <= limit;
    }

    /** A vector with one number that is not 0. */
    private static int[] alone(int coordinate, int value) {
        int[] vector = new int[3];
        vector[coordinate] = value;
        return vector;
    }

    private static String written(int[] numbers) {
        StringBuilder text = new StringBuilder("(");
        for (int i = 0; i < numbers.length; i++) text.append(i == 0 ? "" : ", ").append(numbers[i]);
        return text.append(')').toString();
    }

    /** So many points in rows at z = -9, out of the way of all cubes. */
    private static void addRows(CutBodies x, int count) {
        for (int i = 0; i < count; i++) x.point(i % 19 - 9, i / 19 - 9, -9);
    }

    /** All points whose coordinates, without signs and in any order, are these three. */
    private static void addAllLike(CutBodies x, int first, int second, int third) {
        for (int i = -3; i <= 3; i++) {
            for (int j = -3; j <= 3; j++) {
                for (int k = -3; k <= 3; k++) {
                    int[] size = {Math.abs(i), Math.abs(j), Math.abs(k)};
                    Arrays.sort(size);
                    if (size[0] == first && size[1] == second && size[2] == third) x.point(i, j, k);
                }
            }
        }
    }

    /** Points at x, y, -x, -y (0 to 3) and the middle (4), all above plane 0, axis 0 along z; all home is kept. */
    private static CutBodies cross() {
        CutBodies x = new CutBodies();
        x.point(1, 0, 0);
        x.point(0, 1, 0);
        x.point(-1, 0, 0);
        x.point(0, -1, 0);
        x.point(0, 0, 0);
        x.plane(0, 0, 1, -1);
        x.axis(0, 0, 1);
        x.keep();
        return x;
    }

    /** The cross, turned once: none of the five is home. */
    private static CutBodies turnedCross() {
        CutBodies x = cross();
        x.turn(0, 0, 1);
        return x;
    }

    private static String contents(CutBodies x, int points) {
        StringBuilder text = new StringBuilder();
        for (int p = 0; p < points; p++) text.append(' ').append(x.at(p)).append('/').append(x.way(p));
        return text.toString();
    }

    /** What an object with the cross answers to all that changes nothing, a number beyond each end too. */
    private static String look(CutBodies x) {
        StringBuilder text = new StringBuilder();
        for (int p = -1; p <= 5; p++) {
            text.append(' ').append(x.at(p)).append('/').append(x.way(p)).append('/').append(x.piece(p));
            for (int l = -1; l <= 1; l++) text.append(',').append(x.side(p, l));
            for (int a = -1; a <= 1; a++) text.append(':').append(x.image(a, p));
            text.append('~').append(x.cycle(0, 0, p));
        }
        for (int a = -1; a <= 1; a++) text.append(" o").append(x.order(a)).append(x.maps(a));
        for (int n = 0; n <= 2; n++) text.append(" r").append(x.rounds(n));
        return text.append(" p").append(x.pieces()).append(" h").append(x.home()).toString();
    }

    /** The numbers that come next, and what the states kept bring back. */
    private static String next(CutBodies x) {
        StringBuilder text = new StringBuilder();
        text.append(' ').append(x.back(1)).append(' ').append(x.keep()).append(' ').append(x.back(0));
        text.append(contents(x, 5)).append(' ').append(x.back(1)).append(contents(x, 5));
        text.append(' ').append(x.plane(1, 2, 3, 4)).append(' ').append(x.axis(1, 1, 1));
        return text.append(' ').append(x.point(7, 7, 7)).append(contents(x, 7)).toString();
    }

    /** The cross behind calls that should have done nothing answers as one that never had them. */
    private static void dueUntouched(CutBodies x) {
        CutBodies twin = turnedCross();
        dueAlike("all behind it", look(x), look(twin));
        dueAlike("what comes next", next(x), next(twin));
    }

    private static void whatItIs() {
        sentence("An object is used for at most 512 calls after it has been made");
        CutBodies x = new CutBodies();
        x.point(0, 0, 0);
        x.axis(0, 0, 1);
        x.plane(0, 0, 1, -1);
        due("call 4", x.turn(0, 0, 2), 0);
        for (int call = 5; call <= 511; call++) due("call " + call, x.turn(0, 0, 1), 0);
        due("call 512, behind 509 steps", x.way(0), 9);
        // What these answer is free, but none may throw.
        for (int call = 513; call <= 1024; call++) {
            x.turn(0, 0, 12);
            x.point(call % 10, call / 100, 0);
            x.plane(1, 0, 0, 0);
            x.axis(1, 0, 0);
            x.keep();
            x.back(call % 12);
            x.rounds(call % 14);
        }
    }

    private static void pointTerms() {
        mostPoints();
        coordinates();
        noTwoAtOnePlace();
        belowOnAbove();
        alikeToAllPlanes();
        alikeInAllThree();
        numberedByLeastPoints();
    }

    private static void mostPoints() {
        sentence("POINTS, at most 60, numbered from 0 on as they came");
        CutBodies x = new CutBodies();
        for (int i = 0; i < 60; i++) due("point number " + i, x.point(i % 19 - 9, i / 19 - 9, -9), i);
        due("the 61st", x.point(0, 0, 0), -1);
        due("the 61st again", x.point(1, 2, 3), -1);
        due("the last by its number", x.at(59), 59);
        due("no number beyond it", x.at(60), -1);
        due("home()", x.home(), 60);
        x.plane(1, 0, 0, -9);
        due("the first lies where it came", x.side(0, 0), 1);
        due("the 19th lies where it came", x.side(18, 0), 2);
        due("the 20th lies where it came", x.side(19, 0), 1);
    }

    private static void coordinates() {
        sentence("whole x, y, z from -9 to 9");
        int[] values = {-10, -9, 9, 10};
        for (int coordinate = 0; coordinate < 3; coordinate++) {
            for (int value : values) {
                int[] p = alone(coordinate, value);
                int[] n = alone(coordinate, 1);
                CutBodies x = new CutBodies();
                due("point" + written(p), x.point(p[0], p[1], p[2]), within(value, 9) ? 0 : -1);
                due("home() behind point" + written(p), x.home(), within(value, 9) ? 1 : 0);
                x.plane(n[0], n[1], n[2], value);
                due("its side to the plane through it", x.side(0, 0), within(value, 9) ? 1 : -1);
            }
        }
        CutBodies corners = new CutBodies();
        for (int i = 0; i < 8; i++) {
            due("corner " + i, corners.point(i % 2 * 18 - 9, i / 2 % 2 * 18 - 9, i / 4 * 18 - 9), i);
        }
        due("beyond a corner in x", corners.point(10, 9, 9), -1);
        due("beyond a corner in y", corners.point(-9, -10, -9), -1);
        due("beyond a corner in z", corners.point(9, -9, 10), -1);
    }

    private static void noTwoAtOnePlace() {
        sentence("no two at one place");
        CutBodies x = new CutBodies();
        x.point(1, 2, 3);
        due("the same", x.point(1, 2, 3), -1);
        due("the same again", x.point(1, 2, 3), -1);
        due("another x", x.point(2, 2, 3), 1);
        due("another y", x.point(1, 3, 3), 2);
        due("another z", x.point(1, 2, 2), 3);
        due("the same numbers in another order", x.point(3, 2, 1), 4);
        due("the other side", x.point(-1, -2, -3), 5);
        due("the last", x.point(-1, -2, -3), -1);
        x.cube(1);
        due("one that came with a cube", x.point(1, 1, 1), -1);
        due("home()", x.home(), 33);
    }

    private static void belowOnAbove() {
        sentence("a x + b y + c z - d tells whether it lies BELOW (less than 0), ON (0) or ABOVE a plane");
        CutBodies x = new CutBodies();
        x.point(0, 0, 1);
        x.point(9, 9, 9);
        x.point(-9, -9, -9);
        x.point(9, 2, 0);
        x.point(-9, -2, 0);
        int[][] planes = {{0, 0, 1, 2}, {0, 0, 1, 1}, {0, 0, 1, 0}, {2, 3, -5, -4}, {2, 3, -5, -5}, {2, 3, -5, -6},
            {9, 9, 9, 99}, {-9, -9, -9, 99}, {9, 9, 9, -99}, {-9, -9, -9, -99}};
        int[][] sides = {{0, 2, 0, 0, 0}, {1, 2, 0, 0, 0}, {2, 2, 0, 1, 1}, {0, 2, 2, 2, 0}, {1, 2, 2, 2, 0}, {2, 2, 2, 2, 0},
            {0, 2, 0, 1, 0}, {0, 0, 2, 0, 1}, {2, 2, 0, 2, 1}, {2, 0, 2, 1, 2}};
        for (int l = 0; l < planes.length; l++) {
            due("plane" + written(planes[l]), x.plane(planes[l][0], planes[l][1], planes[l][2], planes[l][3]), l);
            for (int p = 0; p < 5; p++) due("side(" + p + ", " + l + ")", x.side(p, l), sides[l][p]);
        }
    }

    private static void alikeToAllPlanes() {
        sentence("A PIECE of the cut is all points that lie alike (below, on, above) to all planes");
        for (int other = 0; other <= 20; other++) {
            CutBodies x = new CutBodies();
            x.point(0, 0, 0);
            for (int l = 0; l < 20; l++) x.plane(1, l == other ? 1 : 0, 0, 0);
            x.point(0, 1, 0);
            due("pieces() when they lie otherwise to plane " + other, x.pieces(), other < 20 ? 2 : 1);
            due("piece(1)", x.piece(1), other < 20 ? 1 : 0);
        }
    }

    private static void alikeInAllThree() {
        sentence("alike (below, on, above)");
        for (int first = -1; first <= 1; first++) {
            for (int second = -1; second <= 1; second++) {
                CutBodies x = new CutBodies();
                x.plane(0, 1, 0, 0);
                x.point(0, first, 0);
                x.point(1, second, 0);
                due("pieces() with " + first + " and " + second, x.pieces(), first == second ? 1 : 2);
                due("piece(1) with " + first + " and " + second, x.piece(1), first == second ? 0 : 1);
            }
        }
    }

    private static void numberedByLeastPoints() {
        sentence("pieces are numbered by their least points");
        CutBodies x = new CutBodies();
        x.plane(0, 0, 1, 0);
        int[] heights = {1, 1, -1, 1, 0, -1, 0};
        int[] pieces = {0, 0, 1, 0, 2, 1, 2};
        for (int p = 0; p < 7; p++) x.point(p, 0, heights[p]);
        for (int p = 0; p < 7; p++) due("piece(" + p + ")", x.piece(p), pieces[p]);
    }

    private static void planeTerms() {
        mostPlanes();
        planeNumbers();
        planeDistances();
        planeNotAll0();
    }

    private static void mostPlanes() {
        sentence("PLANES, at most 20");
        CutBodies x = new CutBodies();
        x.cube(0);
        for (int l = 0; l < 20; l++) due("plane number " + l, x.plane(1, 0, 0, l - 18), l);
        due("pieces()", x.pieces(), 1);
        due("the 21st", x.plane(0, 1, 0, 0), -1);
        due("the 21st again", x.plane(1, 0, 0, 0), -1);
        due("one that is not so either", x.plane(0, 0, 0, 0), -1);
        due("above the 18th", x.side(0, 17), 2);
        due("on the 19th", x.side(0, 18), 1);
        due("below the 20th", x.side(0, 19), 0);
        due("no 21st", x.side(0, 20), -1);
        x.point(0, 1, 0);
        due("the 21st does not cut", x.pieces(), 1);
    }

    private static void planeNumbers() {
        sentence("whole a, b, c from -9 to 9");
        int[] values = {-10, -9, 9, 10};
        for (int coordinate = 0; coordinate < 3; coordinate++) {
            for (int value : values) {
                int[] n = alone(coordinate, value);
                int[] p = alone(coordinate, 1);
                CutBodies x = new CutBodies();
                x.point(p[0], p[1], p[2]);
                due("plane" + written(n), x.plane(n[0], n[1], n[2], value), within(value, 9) ? 0 : -1);
                due("the side of a point on it", x.side(0, 0), within(value, 9) ? 1 : -1);
                int first = within(value, 9) ? 1 : 0;
                due("the number of the next", x.plane(1, 1, 1, 0), first);
            }
        }
        CutBodies y = new CutBodies();
        due("all at one end", y.plane(9, 9, 9, 99), 0);
        due("all at the other", y.plane(-9, -9, -9, -99), 1);
    }

    private static void planeDistances() {
        sentence("d from -99 to 99");
        int[] values = {-100, -99, 99, 100};
        for (int value : values) {
            CutBodies x = new CutBodies();
            int sign = value < 0 ? -1 : 1;
            x.point(sign * 9, sign * 2, 0);
            due("plane with d " + value, x.plane(9, 9, 1, value), within(value, 99) ? 0 : -1);
            due("the side of a point at 99 or -99", x.side(0, 0), within(value, 99) ? 1 : -1);
        }
    }

    private static void planeNotAll0() {
        sentence("whole a, b, c from -9 to 9, not all 0");
        CutBodies x = new CutBodies();
        int[] distances = {-99, -1, 0, 1, 99};
        for (int d : distances) due("plane(0, 0, 0, " + d + ")", x.plane(0, 0, 0, d), -1);
        int number = 0;
        for (int coordinate = 0; coordinate < 3; coordinate++) {
            for (int value = -1; value <= 1; value += 2) {
                int[] n = alone(coordinate, value);
                due("plane" + written(n), x.plane(n[0], n[1], n[2], 0), number++);
            }
        }
    }

    private static void axisTerms() {
        mostAxes();
        axisNumbers();
        axisNotAll0();
        quarters();
        halves();
        thirds();
        farPointsStayWhole();
    }

    private static void mostAxes() {
        sentence("AXES, at most 13");
        CutBodies x = new CutBodies();
        for (int a = 0; a < 13; a++) due("axis number " + a, x.axis(1, a % 2, a / 12), a);
        due("the 14th", x.axis(0, 0, 1), -1);
        due("the 14th again", x.axis(1, 0, 0), -1);
        due("one that is not so either", x.axis(0, 0, 0), -1);
        due("the 12th", x.order(11), 2);
        due("the 13th", x.order(12), 2);
        due("no 14th", x.order(13), 0);
        due("the first stays", x.order(0), 4);
    }

    private static void axisNumbers() {
        sentence("vectors (x, y, z) of numbers -1, 0, 1");
        for (int coordinate = 0; coordinate < 3; coordinate++) {
            for (int value = -2; value <= 2; value++) {
                int[] v = {1, 1, 1};
                v[coordinate] = value;
                CutBodies x = new CutBodies();
                due("axis" + written(v), x.axis(v[0], v[1], v[2]), within(value, 1) ? 0 : -1);
                due("order(0) behind axis" + written(v), x.order(0), within(value, 1) ? value == 0 ? 2 : 3 : 0);
            }
            int[] two = alone(coordinate, 2);
            due("axis" + written(two), new CutBodies().axis(two[0], two[1], two[2]), -1);
            due("the other side", new CutBodies().axis(-two[0], -two[1], -two[2]), -1);
        }
    }

    private static void axisNotAll0() {
        sentence("vectors (x, y, z) of numbers -1, 0, 1, not all 0");
        CutBodies x = new CutBodies();
        due("axis(0, 0, 0)", x.axis(0, 0, 0), -1);
        int number = 0;
        for (int coordinate = 0; coordinate < 3; coordinate++) {
            for (int value = -1; value <= 1; value += 2) {
                int[] v = alone(coordinate, value);
                due("axis" + written(v), x.axis(v[0], v[1], v[2]), number++);
            }
        }
    }

    /** An axis, a point, and where a step takes it. */
    private static void dueStep(int[] axis, int[] from, int[] to) {
        CutBodies x = new CutBodies();
        x.axis(axis[0], axis[1], axis[2]);
        x.point(from[0], from[1], from[2]);
        due("image about " + written(axis) + " of " + written(from), x.image(0, 0), Arrays.equals(from, to) ? 0 : -1);
        x.point(to[0], to[1], to[2]);
        due("image about " + written(axis) + " of " + written(from), x.image(0, 0), Arrays.equals(from, to) ? 0 : 1);
    }

    private static void quarters() {
        sentence("a turn by a quarter, counted the way that takes y to z about (1, 0, 0), z to x about (0, 1, 0), x to y about (0, 0, 1)");
        for (int c = 0; c < 3; c++) {
            int next = (c + 1) % 3;
            int last = (c + 2) % 3;
            dueStep(alone(c, 1), alone(next, 1), alone(last, 1));
            dueStep(alone(c, 1), alone(last, 1), alone(next, -1));
            dueStep(alone(c, 1), alone(c, 1), alone(c, 1));
        }
        sentence("About (-1, 0, 0) and the like it is the other way round");
        for (int c = 0; c < 3; c++) {
            int next = (c + 1) % 3;
            int last = (c + 2) % 3;
            dueStep(alone(c, -1), alone(last, 1), alone(next, 1));
            dueStep(alone(c, -1), alone(next, 1), alone(last, -1));
            dueStep(alone(c, -1), alone(c, 1), alone(c, 1));
        }
    }

    private static void halves() {
        sentence("by half a turn when one is 0");
        for (int c = 0; c < 3; c++) {
            int next = (c + 1) % 3;
            int last = (c + 2) % 3;
            for (int sign = -1; sign <= 1; sign += 2) {
                int[] axis = alone(next, 1);
                axis[last] = sign;
                int[] opposite = alone(next, -1);
                opposite[last] = -sign;
                dueStep(axis, axis, axis);
                dueStep(axis, alone(c, 1), alone(c, -1));
                dueStep(axis, alone(next, 1), alone(last, sign));
                dueStep(opposite, alone(next, 1), alone(last, sign));
                dueStep(opposite, alone(last, 1), alone(next, sign));
            }
        }
    }

    private static void thirds() {
        sentence("(1, 1, 1) takes x to y, y to z, z to x, a point (p, q, r) to (r, p, q)");
        int[] all = {1, 1, 1};
        dueStep(all, alone(0, 1), alone(1, 1));
        dueStep(all, alone(1, 1), alone(2, 1));
        dueStep(all, alone(2, 1), alone(0, 1));
        dueStep(all, new int[] {2, 5, 7}, new int[] {7, 2, 5});
        dueStep(all, all, all);
        sentence("by a third, the same way round, when none is");
        dueStep(new int[] {-1, -1, -1}, new int[] {2, 5, 7}, new int[] {5, 7, 2});
        dueStep(new int[] {-1, 1, 1}, new int[] {2, 5, 7}, new int[] {-5, 7, -2});
        dueStep(new int[] {1, -1, -1}, new int[] {2, 5, 7}, new int[] {-7, -2, 5});
        dueStep(new int[] {1, -1, 1}, new int[] {2, 5, 7}, new int[] {-5, -7, 2});
        dueStep(new int[] {-1, 1, -1}, new int[] {2, 5, 7}, new int[] {7, -2, -5});
        dueStep(new int[] {1, 1, -1}, new int[] {2, 5, 7}, new int[] {5, -7, -2});
        dueStep(new int[] {-1, -1, 1}, new int[] {2, 5, 7}, new int[] {-7, 2, -5});
    }

    private static void farPointsStayWhole() {
        sentence("All of these take whole points to whole points");
        dueStep(alone(0, 1), new int[] {9, -9, 8}, new int[] {9, -8, -9});
        dueStep(new int[] {1, -1, 0}, new int[] {9, 8, -9}, new int[] {-8, -9, 9});
        dueStep(new int[] {1, 1, 1}, new int[] {-9, 9, 8}, new int[] {8, -9, 9});
    }

    private static void turnTerms() {
        allAboveAreTaken();
        blockedWhereNoPointIs();
        blockedWhereNoneIsAbove();
        blockedByNoOther();
        contentsGoWithThem();
        waysByNumber();
    }

    private static void allAboveAreTaken() {
        sentence("all points ABOVE the plane are taken by one step");
        for (int height = -1; height <= 1; height++) {
            CutBodies x = new CutBodies();
            x.point(1, 0, height);
            x.point(0, 1, height);
            x.point(-1, 0, height);
            x.point(0, -1, height);
            x.point(0, 0, height);
            x.plane(0, 0, 1, 0);
            x.axis(0, 0, 1);
            due("turn at height " + height, x.turn(0, 0, 1), 0);
            dueAlike("contents at height " + height, contents(x, 5), height > 0 ? AT_TURNED_CROSS : AT_CROSS);
        }
    }

    private static void blockedWhereNoPointIs() {
        sentence("it is BLOCKED when one of them comes to where no point is");
        CutBodies x = new CutBodies();
        x.plane(0, 0, 1, -1);
        x.axis(0, 0, 1);
        x.point(1, 0, 0);
        due("one alone", x.turn(0, 0, 1), 1 + 0);
        x.point(0, 1, 0);
        x.point(-1, 0, 0);
        due("the one before the gap, not the one behind it", x.turn(0, 0, 1), 1 + 2);
        due("home()", x.home(), 3);
        x.point(0, -1, 0);
        due("no gap", x.turn(0, 0, 1), 0);
    }

    private static void blockedWhereNoneIsAbove() {
        sentence("or no point that is above");
        for (int height = -1; height <= 1; height++) {
            CutBodies x = new CutBodies();
            x.plane(height == 0 ? 1 : 2, height, 0, 0);
            x.axis(1, 1, 0);
            x.point(1, 0, 0);
            x.point(0, 1, 0);
            due("side of the point to which it comes", x.side(1, 0), 1 + height);
            due("turn to a point at " + height, x.turn(0, 0, 1), height > 0 ? 0 : 1 + 0);
            due("home()", x.home(), height > 0 ? 0 : 2);
        }
    }

    private static void blockedByNoOther() {
        sentence("when one of them comes to where no point is");
        CutBodies x = new CutBodies();
        x.plane(0, 0, 1, 0);
        x.axis(0, 0, 1);
        x.axis(1, 1, 0);
        due("no points", x.turn(0, 0, 1), 0);
        x.point(1, 0, 0);
        x.point(2, 0, -1);
        due("none above", x.turn(0, 0, 12), 0);
        due("home() when none was above", x.home(), 2);
        x.point(0, 0, 1);
        due("those on and below have no place to come to, that above stays", x.turn(0, 0, 1), 0);
        due("home() when one was above", x.home(), 2);
        due("about another axis it comes below, where none is", x.turn(1, 0, 1), 1 + 2);
        x.point(0, 0, -1);
        due("and where one is, below", x.turn(1, 0, 1), 1 + 2);
    }

    private static void contentsGoWithThem() {
        sentence("When it is done, what is at the points goes with them");
        CutBodies x = turnedCross();
        dueAlike("once", contents(x, 5), AT_TURNED_CROSS);
        x.turn(0, 0, 1);
        dueAlike("twice", contents(x, 5), AT_TWICE_TURNED);
        x.turn(0, 0, 1);
        dueAlike("three times", contents(x, 5), AT_THRICE_TURNED);
        x.turn(0, 0, 1);
        dueAlike("four times", contents(x, 5), AT_CROSS);
    }

    private static int[] quarterAbout(int axis, int[] v) {
        if (axis == 0) return new int[] {v[0], -v[2], v[1]};
        if (axis == 1) return new int[] {v[2], v[1], -v[0]};
        return new int[] {-v[1], v[0], v[2]};
    }

    /** The document's order written out: x's six places, and for each the four that are left for y. */
    private static int numberOf(int[] xAt, int[] yAt) {
        int[][] order = {{1, 0, 0}, {-1, 0, 0}, {0, 1, 0}, {0, -1, 0}, {0, 0, 1}, {0, 0, -1}};
        int number = 0;
        for (int[] first : order) {
            for (int[] second : order) {
                if (first[0] * second[0] + first[1] * second[1] + first[2] * second[2] != 0) continue;
                if (Arrays.equals(first, xAt) && Arrays.equals(second, yAt)) return number;
                number++;
            }
        }
        return -1;
    }

    private static void waysByNumber() {
        sentence("WAYS are numbered by where they take (1, 0, 0), then (0, 1, 0)");
        Set<Integer> seen = new TreeSet<>();
        CutBodies x = new CutBodies();
        x.cube(0);
        x.plane(1, 0, 0, -1);
        for (int c = 0; c < 3; c++) x.axis(c == 0 ? 1 : 0, c == 1 ? 1 : 0, c == 2 ? 1 : 0);
        due("way 0 leaves all", x.way(0), 0);
        int[] xAt = {1, 0, 0};
        int[] yAt = {0, 1, 0};
        for (int i = 0; i < 120; i++) {
            int axis = Integer.bitCount(i) % 3;
            x.turn(axis, 0, 1);
            xAt = quarterAbout(axis, xAt);
            yAt = quarterAbout(axis, yAt);
            due("behind " + (i + 1) + " quarters", x.way(0), numberOf(xAt, yAt));
            seen.add(x.way(0));
        }
        sentence("one of the 24 ways in which all steps can turn");
        due("how many came", seen.size(), 24);
        due("the first and the last", seen.contains(0) && seen.contains(23) && !seen.contains(24), true);
    }

    private static void newObject() {
        sentence("No points, planes, axes; nothing kept");
        CutBodies x = new CutBodies();
        for (int i = -1; i <= 0; i++) {
            due("order", x.order(i), 0);
            due("side", x.side(i, i), -1);
            due("piece", x.piece(i), -1);
            due("image", x.image(i, i), -1);
            due("turn", x.turn(i, i, 1), -1);
            due("at", x.at(i), -1);
            due("way", x.way(i), -1);
            due("maps", x.maps(i), false);
            due("cycle", x.cycle(i, i, i), 0);
            due("rounds", x.rounds(i + 1), 0);
            due("back", x.back(i), false);
        }
        due("pieces", x.pieces(), 0);
        due("home", x.home(), 0);
        due("the first state", x.keep(), 0);
        due("the first axis", x.axis(1, 0, 0), 0);
        due("the first plane", x.plane(1, 0, 0, 0), 0);
        due("the first point", x.point(1, 0, 0), 0);
        due("another object has none of these", new CutBodies().back(0), false);
    }

    private static void pointPromise() {
        pointBringsAllHome();
        pointNotSo();
        pointWhereOneIs();
        pointWhenThereAre60();
    }

    private static void pointBringsAllHome() {
        sentence("A point: its number (what is at all points is their own again then, unturned)");
        CutBodies x = turnedCross();
        due("point(0, 0, -9)", x.point(0, 0, -9), 5);
        dueAlike("contents", contents(x, 6), AT_CROSS + " 5/0");
        due("home()", x.home(), 6);
        due("the plane is there still: the new point lies below", x.side(5, 0), 0);
        due("the axis is there still", x.turn(0, 0, 1), 0);
        dueAlike("contents behind a turn", contents(x, 6), AT_TURNED_CROSS + " 5/0");
        due("the 60th too", fillTo60(x), 59);
        due("home() behind it", x.home(), 60);
    }

    /** From six points on, at y = 9; answers the number of the last. */
    private static int fillTo60(CutBodies x) {
        int last = -1;
        for (int i = 6; i < 60; i++) {
            x.turn(0, 0, 1);
            last = x.point(i % 19 - 9, 9, -i / 19 - 1);
        }
        return last;
    }

    private static void pointNotSo() {
        sentence("-1, doing nothing, when it is not so");
        CutBodies x = turnedCross();
        for (int value = -10; value <= 10; value += 20) {
            due("x " + value, x.point(value, 0, 5), -1);
            due("y " + value, x.point(5, value, 0), -1);
            due("z " + value, x.point(0, 5, value), -1);
        }
        dueUntouched(x);
    }

    private static void pointWhereOneIs() {
        sentence("-1, doing nothing, when it is not so, one is there");
        CutBodies x = turnedCross();
        due("the first", x.point(1, 0, 0), -1);
        due("the last", x.point(0, 0, 0), -1);
        dueUntouched(x);
    }

    private static void pointWhenThereAre60() {
        sentence("-1, doing nothing, when it is not so, one is there, or there are 60");
        CutBodies x = cross();
        for (int i = 0; i < 55; i++) due("point number " + (i + 5), x.point(i % 19 - 9, i / 19 - 9, -9), i + 5);
        due("keep()", x.keep(), 1);
        x.turn(0, 0, 1);
        due("home() of 60, five of them turned", x.home(), 55);
        due("the 61st", x.point(5, 5, 5), -1);
        dueAlike("contents", contents(x, 5), AT_TURNED_CROSS);
        due("home()", x.home(), 55);
        due("no point came", x.back(1), true);
        due("home() behind back", x.home(), 60);
        due("no 61st", x.at(60), -1);
    }

    private static void cubePromise() {
        cubeSizes();
        cubeOrder();
        cubeOfWhatIsNotThere();
        cubeWithRoom();
        cubeNotSo();
        cubeBringsAllHome();
    }

    private static void cubeSizes() {
        sentence("All points with coordinates from -n to n (n 0 to 2)");
        int[] came = {-1, 1, 27, 60, -1};
        for (int n = -1; n <= 3; n++) {
            CutBodies x = new CutBodies();
            due("cube(" + n + ")", x.cube(n), came[n + 1]);
            due("home() behind cube(" + n + ")", x.home(), Math.max(came[n + 1], 0));
        }
    }

    private static void cubeOrder() {
        sentence("come, by x, then y, then z rising");
        for (int n = 1; n <= 2; n++) {
            int points = n == 1 ? 27 : 60;
            int side = 2 * n + 1;
            int[] divisors = {side * side, side, 1};
            for (int coordinate = 0; coordinate < 3; coordinate++) {
                CutBodies x = new CutBodies();
                x.cube(n);
                int[] normal = alone(coordinate, 1);
                for (int d = -1; d <= 1; d++) x.plane(normal[0], normal[1], normal[2], d);
                for (int p = 0; p < points; p++) {
                    int value = p / divisors[coordinate] % side - n;
                    for (int d = -1; d <= 1; d++) {
                        due("side(" + p + ", " + (d + 1) + ") of cube(" + n + ")", x.side(p, d + 1), 1 + Integer.signum(value - d));
                    }
                }
            }
        }
    }

    private static void cubeOfWhatIsNotThere() {
        sentence("that are not there yet come");
        CutBodies x = new CutBodies();
        x.point(1, 1, 1);
        x.point(-1, -1, -1);
        x.point(0, 0, 2);
        due("cube(1) where two are", x.cube(1), 25);
        due("cube(1) where all are", x.cube(1), 0);
        due("cube(0) where it is", x.cube(0), 0);
        x.plane(1, 1, 1, 3);
        x.plane(1, 1, 1, -3);
        due("the first keeps its number", x.side(0, 0), 1);
        due("the second keeps its number", x.side(1, 1), 1);
        due("the first to come", x.side(3, 1), 2);
        due("the last to come is not (1, 1, 1)", x.side(27, 0), 0);
        due("no 29th", x.at(28), -1);
        due("cube(2), as many as there is room for", x.cube(2), 32);
    }

    private static void cubeWithRoom() {
        sentence("how many came (as many as there is room for)");
        int[][] rows = {{32, 27}, {33, 27}, {34, 26}, {58, 2}, {59, 1}, {60, 0}};
        for (int[] row : rows) {
            CutBodies x = new CutBodies();
            addRows(x, row[0]);
            due("cube(1) behind " + row[0] + " points", x.cube(1), row[1]);
            due("home() behind them", x.home(), row[0] + row[1]);
            due("no point beyond them", x.at(row[0] + row[1]), -1);
            due("cube(1) again", x.cube(1), 0);
        }
        CutBodies y = new CutBodies();
        addRows(y, 58);
        y.cube(1);
        y.plane(3, 3, 1, -7);
        due("the 59th is the first of the cube", y.side(58, 0), 1);
        due("the 60th is the second", y.side(59, 0), 2);
        CutBodies z = new CutBodies();
        addRows(z, 59);
        due("cube(0) takes the last room", z.cube(0), 1);
        due("cube(0) where it is, without room", z.cube(0), 0);
    }

    private static void cubeNotSo() {
        sentence("-1, doing nothing, when n is not so");
        CutBodies x = turnedCross();
        due("cube(-1)", x.cube(-1), -1);
        due("cube(3)", x.cube(3), -1);
        for (int far : FAR) due("cube(" + far + ")", x.cube(far), -1);
        dueUntouched(x);
        CutBodies y = new CutBodies();
        addRows(y, 60);
        due("cube(3) without room", y.cube(3), -1);
        due("cube(-1) without room", y.cube(-1), -1);
    }

    private static void cubeBringsAllHome() {
        sentence("What is at all points is their own again, unturned");
        CutBodies x = turnedCross();
        due("cube(1)", x.cube(1), 22);
        due("home()", x.home(), 27);
        dueAlike("contents", contents(x, 5), AT_CROSS);
        CutBodies y = turnedCross();
        due("cube(0), of which none comes", y.cube(0), 0);
        dueAlike("contents when none came", contents(y, 5), AT_CROSS);
        CutBodies z = cross();
        addRows(z, 55);
        z.turn(0, 0, 1);
        due("cube(2) without room", z.cube(2), 0);
        dueAlike("contents when there was no room", contents(z, 5), AT_CROSS);
    }

    private static void planeAndAxisPromises() {
        sentence("A plane: its number; -1 when it is not so, or there are 20");
        CutBodies x = turnedCross();
        due("all 0", x.plane(0, 0, 0, 5), -1);
        due("a 10", x.plane(10, 1, 1, 0), -1);
        due("b -10", x.plane(1, -10, 1, 0), -1);
        due("c 10", x.plane(1, 1, 10, 0), -1);
        due("d 100", x.plane(1, 1, 1, 100), -1);
        due("d -100", x.plane(1, 1, 1, -100), -1);
        dueUntouched(x);
        sentence("An axis: its number; -1 when it is not so, or there are 13");
        CutBodies y = turnedCross();
        due("all 0", y.axis(0, 0, 0), -1);
        due("x 2", y.axis(2, 1, 1), -1);
        due("y -2", y.axis(1, -2, 1), -1);
        due("z 2", y.axis(1, 1, 2), -1);
        dueUntouched(y);
        CutBodies z = turnedCross();
        for (int i = 1; i < 20; i++) due("plane " + i, z.plane(1, 0, 0, 0), i);
        for (int i = 1; i < 13; i++) due("axis " + i, z.axis(1, 0, 0), i);
        due("the 21st plane", z.plane(1, 0, 0, 0), -1);
        due("the 14th axis", z.axis(1, 0, 0), -1);
        dueAlike("planes and axes leave what is at the points", contents(z, 5), AT_TURNED_CROSS);
        due("and the states", z.back(0), true);
    }

    private static void askingPromises() {
        orderOfNone();
        sideOfNone();
        piecesAtTheEnds();
        pieceOfNone();
        imageOfNone();
    }

    private static void orderOfNone() {
        sentence("2, 3 or 4; 0 when there is no such axis");
        CutBodies x = new CutBodies();
        due("order(0) of none", x.order(0), 0);
        for (int i = 0; i < 13; i++) {
            due("order(" + i + ") before it comes", x.order(i), 0);
            x.axis(1, i < 1 ? 0 : 1, i < 2 ? 0 : 1);
            due("order(" + i + ")", x.order(i), i < 1 ? 4 : i < 2 ? 2 : 3);
        }
        due("order(-1)", x.order(-1), 0);
        due("order(13)", x.order(13), 0);
    }

    private static void sideOfNone() {
        sentence("0 when a point lies below a plane, 1 on it, 2 above; -1 when there is none such");
        CutBodies x = new CutBodies();
        x.plane(1, 0, 0, 0);
        due("no point yet", x.side(0, 0), -1);
        x.point(0, 0, 0);
        due("the point", x.side(0, 0), 1);
        due("the next", x.side(1, 0), -1);
        due("no such plane", x.side(0, 1), -1);
        due("point -1", x.side(-1, 0), -1);
        due("plane -1", x.side(0, -1), -1);
        due("neither", x.side(1, 1), -1);
        addRows(x, 59);
        for (int l = 1; l < 20; l++) x.plane(0, 0, -1, 8);
        due("the last point and plane", x.side(59, 19), 2);
        due("a point beyond the last", x.side(60, 19), -1);
        due("a plane beyond the last", x.side(59, 20), -1);
        due("beyond a word's bits", x.side(59, 32), -1);
    }

    private static void piecesAtTheEnds() {
        sentence("How many pieces");
        CutBodies x = new CutBodies();
        due("of nothing", x.pieces(), 0);
        x.plane(1, 0, 0, 0);
        due("of a plane without points", x.pieces(), 0);
        CutBodies y = new CutBodies();
        y.point(1, 1, 1);
        due("of one point", y.pieces(), 1);
        addRows(y, 59);
        due("of 60 points without planes", y.pieces(), 1);
        CutBodies z = new CutBodies();
        addRows(z, 60);
        for (int l = 0; l < 17; l += 2) z.plane(1, 0, 0, l - 8);
        due("of 19 columns, cut nine times", z.pieces(), 19);
        z.plane(0, 1, 0, -8);
        due("of rows -9, -8, and the two above that have 22 points", z.pieces(), 19 * 3);
        z.plane(0, 1, 0, -7);
        due("each its own", z.pieces(), 60);
        for (int p = 0; p < 60; p++) due("piece(" + p + ")", z.piece(p), p);
    }

    private static void pieceOfNone() {
        sentence("The piece of a point; -1 when there is none such");
        CutBodies x = new CutBodies();
        due("of nothing", x.piece(0), -1);
        addRows(x, 60);
        due("the first without planes", x.piece(0), 0);
        due("the last without planes", x.piece(59), 0);
        due("beyond the last", x.piece(60), -1);
        due("-1", x.piece(-1), -1);
    }

    private static void imageOfNone() {
        sentence("the point there; -1 when none is there, or there is none such");
        CutBodies x = new CutBodies();
        x.point(1, 0, 0);
        due("no axis yet", x.image(0, 0), -1);
        x.axis(0, 0, 1);
        due("none is there", x.image(0, 0), -1);
        due("no such point", x.image(0, 1), -1);
        due("point -1", x.image(0, -1), -1);
        due("no such axis", x.image(1, 0), -1);
        due("axis -1", x.image(-1, 0), -1);
        due("neither", x.image(1, 1), -1);
        x.point(0, 1, 0);
        due("one is there", x.image(0, 0), 1);
        due("none is there for the other", x.image(0, 1), -1);
        addRows(x, 57);
        x.point(-1, 0, 0);
        for (int i = 1; i < 13; i++) x.axis(0, 0, -1);
        due("the last point", x.image(0, 1), 59);
        due("of the last point by the last axis", x.image(12, 59), 1);
        due("beyond the last point", x.image(12, 60), -1);
        due("beyond the last axis", x.image(13, 59), -1);
    }

    private static void turnPromise() {
        turnTimes();
        turnOfNone();
        turnRefusedDoesNothing();
        turnBlockedByTheLeast();
        turnBlockedDoesNothing();
    }

    private static void turnTimes() {
        sentence("so many times (1 to 12) one behind the other: 0 when it is done");
        for (int times = -1; times <= 14; times++) {
            CutBodies x = cross();
            boolean taken = 1 <= times && times <= 12;
            due("turn(0, 0, " + times + ")", x.turn(0, 0, times), taken ? 0 : -1);
            dueAlike("contents behind " + times, contents(x, 5), AT_QUARTERS[taken ? times % 4 : 0]);
        }
    }

    private static void turnOfNone() {
        sentence("-1 when there is no such axis or plane, or times is not so");
        CutBodies x = new CutBodies();
        x.cube(1);
        x.plane(0, 0, 1, 0);
        due("no axis yet", x.turn(0, 0, 1), -1);
        x.axis(0, 0, 1);
        due("axis and plane", x.turn(0, 0, 4), 0);
        due("axis 1", x.turn(1, 0, 1), -1);
        due("axis -1", x.turn(-1, 0, 1), -1);
        due("plane 1", x.turn(0, 1, 1), -1);
        due("plane -1", x.turn(0, -1, 1), -1);
        due("times 0", x.turn(0, 0, 0), -1);
        due("times 13", x.turn(0, 0, 13), -1);
        due("none of the three", x.turn(1, 1, 0), -1);
        for (int a = 1; a < 13; a++) x.axis(0, 0, 1);
        for (int l = 1; l < 20; l++) x.plane(0, 0, 1, 0);
        due("the last axis and plane", x.turn(12, 19, 4), 0);
        due("beyond the last axis", x.turn(13, 19, 4), -1);
        due("beyond the last plane", x.turn(12, 20, 4), -1);
        due("home()", x.home(), 27);
    }

    private static void turnRefusedDoesNothing() {
        sentence("-1 when there is no such axis or plane");
        CutBodies x = turnedCross();
        due("axis 1", x.turn(1, 0, 1), -1);
        due("plane 1", x.turn(0, 1, 1), -1);
        due("times 0", x.turn(0, 0, 0), -1);
        due("times 13", x.turn(0, 0, 13), -1);
        dueUntouched(x);
        sentence("or times is not so");
        CutBodies y = new CutBodies();
        y.point(1, 0, 0);
        y.plane(1, 0, 0, 0);
        y.axis(0, 0, 1);
        due("blocked", y.turn(0, 0, 12), 1);
        due("times 13 of one that would be blocked", y.turn(0, 0, 13), -1);
        due("times 0 of one that would be blocked", y.turn(0, 0, 0), -1);
    }

    private static void turnBlockedByTheLeast() {
        sentence("1 and the least point by which it is BLOCKED");
        CutBodies x = new CutBodies();
        x.plane(0, 0, 1, 0);
        x.axis(0, 0, 1);
        x.axis(1, 0, 0);
        x.point(0, 0, 5);
        for (int i = 1; i < 59; i++) x.point(i % 19 - 9, i / 19 - 9, -9);
        due("none blocks", x.turn(0, 0, 1), 0);
        x.point(3, 0, 1);
        due("the last of 60 blocks", x.turn(0, 0, 1), 1 + 59);
        due("the first of 60 blocks, and the last", x.turn(1, 0, 1), 1 + 0);
        CutBodies y = new CutBodies();
        y.plane(0, 0, 1, 0);
        y.axis(0, 0, 1);
        y.point(0, 0, 1);
        y.point(0, 0, -1);
        y.point(4, 4, 4);
        y.point(5, 5, 5);
        due("the least of two", y.turn(0, 0, 1), 1 + 2);
        due("as many times as one likes", y.turn(0, 0, 12), 1 + 2);
    }

    private static void turnBlockedDoesNothing() {
        sentence("1 and the least point by which it is BLOCKED, then nothing is done");
        CutBodies x = turnedCross();
        CutBodies twin = turnedCross();
        for (CutBodies each : new CutBodies[] {x, twin}) {
            each.plane(-1, 0, 0, 0);
            each.axis(1, 1, 0);
        }
        due("blocked by the only one above", x.turn(0, 1, 1), 1 + 2);
        due("blocked about the other", x.turn(1, 1, 7), 1 + 2);
        dueAlike("all behind it", look(x), look(twin));
        dueAlike("what comes next", next(x), next(twin));
    }

    private static void contentsPromises() {
        atNone();
        wayOfNone();
        homeAtTheEnds();
    }

    private static void atNone() {
        sentence("What was at first at which point is at a point now; -1 when there is none such");
        CutBodies x = turnedCross();
        int[] at = {-1, 3, 0, 1, 2, 4, -1};
        for (int p = -1; p <= 5; p++) due("at(" + p + ")", x.at(p), at[p + 1]);
        addRows(x, 55);
        due("at(59)", x.at(59), 59);
        due("at(60)", x.at(60), -1);
    }

    private static void wayOfNone() {
        sentence("The WAY in which it is turned; -1 when there is none such");
        CutBodies x = turnedCross();
        for (int p = -1; p <= 5; p++) due("way(" + p + ")", x.way(p), p < 0 || p > 4 ? -1 : 9);
        x.point(0, 0, -5);
        due("way(5) when it has come", x.way(5), 0);
        addRows(x, 54);
        due("way(59)", x.way(59), 0);
        due("way(60)", x.way(60), -1);
    }

    private static void homeAtTheEnds() {
        sentence("How many points have their own, unturned");
        due("none of none", new CutBodies().home(), 0);
        due("none of five", turnedCross().home(), 0);
        CutBodies x = new CutBodies();
        addRows(x, 60);
        due("all of 60", x.home(), 60);
        CutBodies y = new CutBodies();
        y.cube(0);
        y.plane(1, 0, 0, -1);
        y.axis(1, 1, 0);
        y.turn(0, 0, 1);
        due("its own, but turned: at(0)", y.at(0), 0);
        due("its own, but turned", y.home(), 0);
        y.turn(0, 0, 1);
        due("its own, unturned again", y.home(), 1);
    }

    private static void mapsPromise() {
        mapsOfNone();
        mapsPoints();
        mapsPlanes();
    }

    private static void mapsOfNone() {
        sentence("false when there is no such axis");
        CutBodies x = new CutBodies();
        due("no axis", x.maps(0), false);
        x.axis(0, 0, 1);
        due("an axis, no points, no planes", x.maps(0), true);
        due("axis 1", x.maps(1), false);
        due("axis -1", x.maps(-1), false);
        for (int a = 1; a < 13; a++) x.axis(0, 0, 1);
        due("the last axis", x.maps(12), true);
        due("beyond the last", x.maps(13), false);
    }

    private static void mapsPoints() {
        sentence("each point is taken to a point");
        CutBodies one = new CutBodies();
        one.axis(0, 0, 1);
        one.point(1, 0, 0);
        due("one point alone that goes away", one.maps(0), false);
        CutBodies x = new CutBodies();
        x.axis(0, 0, 1);
        x.axis(1, 1, 0);
        x.point(0, 0, 0);
        due("the middle", x.maps(0) && x.maps(1), true);
        x.point(1, 0, 0);
        due("a quarter without the other three", x.maps(0), false);
        x.point(0, 1, 0);
        due("half a turn with the other", x.maps(1), true);
        x.point(-1, 0, 0);
        due("three of four", x.maps(0), false);
        due("half a turn without the other", x.maps(1), false);
        x.point(0, -1, 0);
        due("four of four", x.maps(0) && x.maps(1), true);
        x.plane(0, 0, 1, 0);
        due("turns by a plane do not matter", x.maps(0) && x.maps(1), true);
        x.plane(0, 0, 1, 1);
        due("a plane beside the axis that lies in it", x.maps(1), false);
        due("a plane across the axis", x.maps(0), true);
    }

    private static void mapsPlanes() {
        sentence("each plane to where a plane is (that has the same points on it, in space)");
        int[][] firsts = {{1, 0, 0, 0}, {1, 0, 0, 0}, {1, 0, 0, 0}, {2, 0, 0, 6}, {9, 0, 0, 99}, {9, 0, 0, 99}, {1, 0, 0, 3}, {1, 0, 0, 3}};
        int[][] others = {{0, 1, 0, 0}, {0, -1, 0, 0}, {0, 9, 0, 0}, {0, 3, 0, 9}, {0, 3, 0, 33}, {0, 3, 0, 32}, {0, -1, 0, 3}, {0, -1, 0, -3}};
        boolean[] halfMaps = {true, true, true, true, true, false, false, true};
        for (int i = 0; i < firsts.length; i++) {
            CutBodies x = new CutBodies();
            x.axis(1, 1, 0);
            x.plane(firsts[i][0], firsts[i][1], firsts[i][2], firsts[i][3]);
            due("one alone", x.maps(0), false);
            x.plane(others[i][0], others[i][1], others[i][2], others[i][3]);
            due("plane" + written(firsts[i]) + " and plane" + written(others[i]), x.maps(0), halfMaps[i]);
        }
        CutBodies y = new CutBodies();
        y.axis(0, 0, 1);
        for (int l = 0; l < 17; l++) y.plane(0, 0, 1, l);
        due("17 planes across the axis", y.maps(0), true);
        y.plane(1, 2, 0, 1);
        y.plane(2, -1, 0, 1);
        due("two of four", y.maps(0), false);
        y.plane(-3, -6, 0, 3);
        due("three of four, 20 in all", y.maps(0), false);
        CutBodies z = new CutBodies();
        z.axis(0, 0, 1);
        for (int l = 0; l < 16; l++) z.plane(0, 0, 1, l);
        z.plane(1, 2, 0, 1);
        z.plane(2, -1, 0, -1);
        z.plane(-3, -6, 0, 3);
        z.plane(-4, 2, 0, -2);
        due("four of four, 20 in all", z.maps(0), true);
    }

    private static void cyclePromise() {
        sentence("How many points the cycle of a point has that a TURN takes round (1 when it stays)");
        CutBodies x = new CutBodies();
        x.cube(1);
        x.plane(0, 0, 1, 0);
        x.plane(1, 1, 1, -4);
        x.axis(0, 0, 1);
        x.axis(1, 1, 1);
        x.axis(1, 1, 0);
        due("a quarter", x.cycle(0, 0, 2), 4);
        due("on the axis", x.cycle(0, 0, 14), 1);
        due("on the plane", x.cycle(0, 0, 1), 1);
        due("below the plane", x.cycle(0, 0, 0), 1);
        due("a third", x.cycle(1, 1, 1), 3);
        due("on a third's axis", x.cycle(1, 1, 26), 1);
        due("a half", x.cycle(2, 1, 4), 2);
        due("on a half's axis", x.cycle(2, 1, 25), 1);
        sentence("0 when the turn is blocked");
        due("for one that blocks", x.cycle(2, 0, 2), 0);
        due("for one that would stay", x.cycle(2, 0, 0), 0);
        sentence("0 when the turn is blocked, or there is none such");
        due("axis 3", x.cycle(3, 0, 0), 0);
        due("axis -1", x.cycle(-1, 0, 0), 0);
        due("plane 2", x.cycle(0, 2, 0), 0);
        due("plane -1", x.cycle(0, -1, 0), 0);
        due("point 27", x.cycle(0, 0, 27), 0);
        due("point -1", x.cycle(0, 0, -1), 0);
        due("the last point", x.cycle(0, 0, 26), 4);
        due("home()", x.home(), 27);
        due("none of anything", new CutBodies().cycle(0, 0, 0), 0);
        CutBodies y = turnedCross();
        due("what is at the points does not matter", y.cycle(0, 0, 1), 4);
        dueUntouched(y);
    }

    private static void roundsPromise() {
        roundsOf13();
        roundsOfNone();
        roundsBlocked();
        roundsAtLeastOne();
        roundsOf60Points();
        roundsFar();
        roundsLeaveAll();
    }

    /** A cross with so many axes and planes, each pair a quarter about z of all. */
    private static CutBodies crossWith(int planes, int axes) {
        CutBodies x = cross();
        for (int l = 1; l < planes; l++) x.plane(0, 0, 1, -1);
        for (int a = 1; a < axes; a++) x.axis(0, 0, 1);
        return x;
    }

    private static void roundsOf13() {
        sentence("and so on for n (1 to 13) of them");
        CutBodies x = crossWith(20, 13);
        int[] rows = {1, 4, 2, 4};
        for (int n = 1; n <= 13; n++) due("rounds(" + n + ")", x.rounds(n), rows[n % 4]);
        sentence("or n is not so");
        due("rounds(0)", x.rounds(0), 0);
        due("rounds(-1)", x.rounds(-1), 0);
        due("rounds(14)", x.rounds(14), 0);
        due("rounds(20)", x.rounds(20), 0);
        dueAlike("contents", contents(x, 5), AT_CROSS);
    }

    private static void roundsOfNone() {
        sentence("0 when one is blocked, or there is no such axis or plane");
        CutBodies fewAxes = crossWith(20, 12);
        due("rounds(12) with 12 axes", fewAxes.rounds(12), 1);
        due("rounds(13) with 12 axes", fewAxes.rounds(13), 0);
        fewAxes.axis(0, 0, 1);
        due("rounds(13) with 13 axes", fewAxes.rounds(13), 4);
        CutBodies fewPlanes = crossWith(12, 13);
        due("rounds(12) with 12 planes", fewPlanes.rounds(12), 1);
        due("rounds(13) with 12 planes", fewPlanes.rounds(13), 0);
        fewPlanes.plane(0, 0, 1, -1);
        due("rounds(13) with 13 planes", fewPlanes.rounds(13), 4);
        CutBodies none = new CutBodies();
        due("neither", none.rounds(1), 0);
        none.plane(1, 0, 0, 0);
        due("no axis", none.rounds(1), 0);
        CutBodies axisAlone = new CutBodies();
        axisAlone.axis(1, 0, 0);
        due("no plane", axisAlone.rounds(1), 0);
    }

    private static void roundsBlocked() {
        sentence("0 when one is blocked");
        for (int blocked = 0; blocked < 3; blocked++) {
            CutBodies x = new CutBodies();
            x.cube(1);
            for (int i = 0; i < 3; i++) {
                x.axis(0, 0, 1);
                if (i == blocked) {
                    x.plane(1, 0, 0, 0);
                } else {
                    x.plane(0, 0, 1, 0);
                }
            }
            for (int n = 1; n <= 3; n++) {
                due("rounds(" + n + ") when number " + blocked + " is", x.rounds(n), blocked < n ? 0 : n == 2 ? 2 : 4);
            }
            due("home()", x.home(), 27);
        }
    }

    private static void roundsAtLeastOne() {
        sentence("brings all back to what is now at first behind so many rows (at least 1)");
        CutBodies x = new CutBodies();
        x.axis(0, 0, 1);
        x.plane(0, 0, 1, -1);
        due("no points", x.rounds(1), 1);
        x.point(0, 0, -1);
        due("none above", x.rounds(1), 1);
        x.point(0, 0, 0);
        due("one that stays, but turned", x.rounds(1), 4);
        x.axis(0, 0, -1);
        x.plane(0, 0, 1, -1);
        due("there and back in one row", x.rounds(2), 1);
        CutBodies one = new CutBodies();
        one.axis(1, 1, 1);
        one.plane(0, 0, 1, -1);
        one.cube(0);
        due("one point alone, turned by thirds", one.rounds(1), 3);
        CutBodies y = turnedCross();
        due("from what is now, not from home", y.rounds(1), 4);
        y.axis(0, 0, -1);
        y.plane(0, 0, 1, -1);
        due("from what is now, in one row", y.rounds(2), 1);
    }

    private static void roundsOf60Points() {
        sentence("brings all back to what is now");
        CutBodies x = new CutBodies();
        addRows(x, 56);
        x.point(1, 0, 0);
        x.point(0, 1, 0);
        x.point(-1, 0, 0);
        x.point(0, -1, 0);
        x.axis(0, 0, 1);
        x.plane(0, 0, 1, -1);
        due("the last four of 60", x.rounds(1), 4);
        due("home()", x.home(), 60);
    }

    private static CutBodies bodyOf1995() {
        CutBodies x = new CutBodies();
        x.cube(1);
        addAllLike(x, 0, 1, 3);
        x.axis(1, -1, 1);
        x.plane(1, -1, 1, -1);
        x.axis(-1, 1, 1);
        x.plane(-1, 1, 1, 1);
        x.axis(0, 0, 1);
        x.plane(0, 0, -1, 2);
        x.axis(-1, 0, 1);
        x.plane(1, 0, -1, 2);
        return x;
    }

    private static CutBodies bodyOf2002() {
        CutBodies x = new CutBodies();
        addAllLike(x, 0, 1, 1);
        addAllLike(x, 2, 3, 3);
        x.axis(1, 0, 0);
        x.plane(1, 0, 0, -1);
        x.axis(0, 1, 1);
        x.plane(0, 1, 1, -3);
        x.axis(0, 0, 1);
        x.plane(0, 0, -1, -3);
        return x;
    }

    /** No body is back behind 1,996 to 2,001 rows (README.md says why), so these two stand on either side of the edge. */
    private static void roundsFar() {
        sentence("-1 when it is not back behind 2,000 rows");
        CutBodies x = bodyOf1995();
        due("back behind 1,995", x.rounds(4), 1995);
        due("home()", x.home(), 51);
        CutBodies y = bodyOf2002();
        due("back behind 2,002", y.rounds(3), -1);
        due("home()", y.home(), 36);
        y.turn(0, 0, 1);
        String before = contents(y, 36);
        due("from elsewhere", y.rounds(3), -1);
        sentence("All is as it was then");
        dueAlike("contents behind 2,000 rows", contents(y, 36), before);
    }

    private static void roundsLeaveAll() {
        sentence("All is as it was then");
        CutBodies x = turnedCross();
        due("back", x.rounds(1), 4);
        due("no such", x.rounds(2), 0);
        due("n 0", x.rounds(0), 0);
        due("n 14", x.rounds(14), 0);
        dueUntouched(x);
        CutBodies y = turnedCross();
        CutBodies twin = turnedCross();
        for (CutBodies each : new CutBodies[] {y, twin}) {
            each.plane(-1, 0, 0, 0);
            each.axis(0, 0, 1);
        }
        due("the second is blocked", y.rounds(2), 0);
        dueAlike("all behind it", look(y), look(twin));
        dueAlike("what comes next", next(y), next(twin));
    }

    private static void keepPromise() {
        sentence("What is at all points is kept: its number; -1 when 10 are kept");
        CutBodies x = cross();
        for (int state = 1; state < 10; state++) {
            x.turn(0, 0, 1);
            due("state " + state, x.keep(), state);
        }
        x.turn(0, 0, 1);
        due("the 11th", x.keep(), -1);
        due("the 11th again", x.keep(), -1);
        due("it leaves what is at the points", x.at(1), 3);
        for (int state = 9; state >= 0; state--) {
            due("back(" + state + ")", x.back(state), true);
            dueAlike("contents of state " + state, contents(x, 5), AT_QUARTERS[state % 4]);
        }
        due("there is no 11th", x.back(10), false);
        x.point(5, 5, 5);
        due("ten are kept, though points came", x.keep(), -1);
        CutBodies y = new CutBodies();
        for (int state = 0; state < 10; state++) due("state " + state + " of nothing", y.keep(), state);
        due("the 11th of nothing", y.keep(), -1);
        keepLeavesAll();
    }

    private static void keepLeavesAll() {
        CutBodies x = turnedCross();
        due("keep()", x.keep(), 1);
        dueAlike("all behind it", look(x), look(turnedCross()));
    }

    private static void backPromise() {
        backToNone();
        backWhenPointsCame();
        backWhenNoneCame();
        staysKept();
    }

    private static void backToNone() {
        sentence("false when there is no such state");
        CutBodies x = turnedCross();
        due("back(1)", x.back(1), false);
        due("back(-1)", x.back(-1), false);
        due("back(9)", x.back(9), false);
        due("back(10)", x.back(10), false);
        dueUntouched(x);
        CutBodies y = new CutBodies();
        due("nothing kept", y.back(0), false);
        y.keep();
        due("nothing at no points", y.back(0), true);
        due("no second", y.back(1), false);
    }

    private static void backWhenPointsCame() {
        sentence("false when there is no such state, or points came since");
        CutBodies x = turnedCross();
        x.keep();
        x.point(0, 0, -5);
        x.turn(0, 0, 1);
        due("a point came", x.back(0), false);
        due("a point came since the other too", x.back(1), false);
        dueAlike("nothing is done", contents(x, 6), AT_TURNED_CROSS + " 5/0");
        due("kept behind it", x.keep(), 2);
        x.turn(0, 0, 1);
        due("none came since", x.back(2), true);
        dueAlike("as it was kept", contents(x, 6), AT_TURNED_CROSS + " 5/0");
        due("the first is still of no use", x.back(0), false);
        due("a cube comes", x.cube(1), 22);
        due("points of a cube came", x.back(2), false);
        due("home()", x.home(), 28);
        CutBodies y = new CutBodies();
        y.keep();
        y.cube(0);
        due("the first point of all came", y.back(0), false);
        CutBodies z = cross();
        addRows(z, 54);
        z.keep();
        z.point(0, 0, 9);
        due("the 60th came", z.back(1), false);
    }

    private static void backWhenNoneCame() {
        sentence("or points came since");
        CutBodies x = turnedCross();
        x.keep();
        due("a point that is there", x.point(0, 0, 0), -1);
        due("a point that is not so", x.point(0, 0, 10), -1);
        due("a cube that is not so", x.cube(3), -1);
        due("a cube that is there", x.cube(0), 0);
        x.plane(1, 2, 3, 4);
        x.axis(1, 1, 1);
        dueAlike("the cube brought all home", contents(x, 5), AT_CROSS);
        due("none of these was a point that came", x.back(1), true);
        dueAlike("as it was kept", contents(x, 5), AT_TURNED_CROSS);
        CutBodies y = cross();
        addRows(y, 55);
        y.turn(0, 0, 1);
        y.keep();
        due("a point without room", y.point(5, 5, 5), -1);
        due("a cube without room", y.cube(2), 0);
        due("none came", y.back(1), true);
        dueAlike("as it was kept with 60", contents(y, 5), AT_TURNED_CROSS);
    }

    private static void staysKept() {
        sentence("(It stays kept.)");
        CutBodies x = turnedCross();
        due("keep()", x.keep(), 1);
        for (int i = 0; i < 3; i++) {
            due("back(0)", x.back(0), true);
            dueAlike("state 0", contents(x, 5), AT_CROSS);
            x.turn(0, 0, 3);
            due("back(1)", x.back(1), true);
            dueAlike("state 1", contents(x, 5), AT_TURNED_CROSS);
            x.turn(0, 0, 2);
            x.rounds(1);
        }
        due("the next number", x.keep(), 2);
    }

    private static void farNumbersDoNothing() {
        sentence("when there is none such");
        for (int far : FAR) {
            CutBodies x = turnedCross();
            due("point", x.point(far, 0, 0) + x.point(0, far, 0) + x.point(0, 0, far) + x.point(far, far, far), -4);
            due("cube", x.cube(far), -1);
            due("plane", x.plane(far, 0, 0, 0) + x.plane(1, far, 0, 0) + x.plane(1, 0, far, 0) + x.plane(1, 0, 0, far), -4);
            due("axis", x.axis(far, 0, 0) + x.axis(0, far, 0) + x.axis(0, 0, far) + x.axis(far, far, far), -4);
            due("order", x.order(far), 0);
            due("side", x.side(far, 0) + x.side(0, far) + x.side(far, far), -3);
            due("piece", x.piece(far), -1);
            due("image", x.image(far, 0) + x.image(0, far) + x.image(far, far), -3);
            due("turn", x.turn(far, 0, 1) + x.turn(0, far, 1) + x.turn(0, 0, far) + x.turn(far, far, far), -4);
            due("at", x.at(far), -1);
            due("way", x.way(far), -1);
            due("maps", x.maps(far), false);
            due("cycle", x.cycle(far, 0, 0) + x.cycle(0, far, 0) + x.cycle(0, 0, far) + x.cycle(far, far, far), 0);
            due("rounds", x.rounds(far), 0);
            due("back", x.back(far), false);
            dueUntouched(x);
        }
    }
}
