import java.util.ArrayList;
import java.util.Arrays;
import java.util.List;
import java.util.Set;
import java.util.TreeSet;

/** Long runs of calls, each answer held against a slow model that follows the document's words. */
public final class ModelTest {
    private static final int RUNS = 2000;
    // An object is used for 512 calls; the last of these may be a turn and a look, eight calls.
    private static final int CALLS_BEFORE_LAST = 512 - 8;
    private static int wrong = 0;
    private static long seed = 12345;
    private static final Set<String> came = new TreeSet<>();

    public static void main(String[] args) {
        for (int run = 0; run < RUNS && wrong < 20; run++) {
            new Run(run).go();
        }
        if (wrong == 0) allKindsOfAnswersCame();
        new Run(RUNS).rowsOf1995();
        new Run(RUNS + 1).rowsOf2002();
        System.out.println(wrong == 0 ? "all answers are the model's" : wrong + " answers are not the model's");
        if (wrong != 0) System.exit(1);
    }

    /** The runs say little of turns and rounds unless all kinds of their answers come. */
    private static void allKindsOfAnswersCame() {
        String[] kinds = {"turn done", "turn blocked", "turn refused", "rounds none", "rounds long", "rounds too long",
            "maps", "back", "cycle 1", "cycle 2", "cycle 3", "cycle 4"};
        for (String kind : kinds) {
            if (!came.contains(kind)) {
                wrong++;
                System.out.println("never came: " + kind);
            }
        }
    }

    /** A sequence with a fixed start, so that every run of the test makes the same calls. */
    private static int pick(int bound) {
        seed = seed * 6364136223846793005L + 1442695040888963407L;
        return (int) ((seed >>> 33) % bound);
    }

    private static int between(int low, int high) {
        return low + pick(high - low + 1);
    }

    private static final class Run {
        private final int number;
        private final int kind = pick(4);
        private int calls = 0;
        private final CutBodies real = new CutBodies();
        private final Model model = new Model();

        Run(int number) {
            this.number = number;
        }

        void go() {
            begin();
            for (int i = 0; i < 512 && calls < CALLS_BEFORE_LAST; i++) call();
        }

        private void due(String call, long got, long want) {
            calls++;
            if (got != want) {
                wrong++;
                System.out.println("run " + number + ": " + call + " answered " + got + ", the model " + want);
            }
        }

        /** Bodies that some axes map, so that not every turn is blocked. */
        private void begin() {
            if (kind == 0) return;
            cube(pick(kind) == 0 ? 0 : 1);
            for (int i = 0; i < 4; i++) orbit(between(-3, 3), between(-3, 3), between(-3, 3));
            int axes = between(1, 4);
            for (int i = 0; i < axes; i++) {
                int[] v = {between(-1, 1), between(-1, 1), between(-1, 1)};
                if (kind == 1) Arrays.fill(v, 0);
                if (kind == 1) v[pick(3)] = pick(2) == 0 ? 1 : -1;
                axis(v[0], v[1], v[2]);
                if (pick(10) != 0) plane(v[0], v[1], v[2], between(-1, 2));
            }
        }

        /** The nearest to 2,000 rows that can be, below it and beyond it (README.md says why). */
        void rowsOf1995() {
            cube(1);
            orbit(0, 1, 3);
            orbit(0, 3, 1);
            axisAndPlane(1, -1, 1, 1, -1);
            axisAndPlane(-1, 1, 1, 1, 1);
            axisAndPlane(0, 0, 1, -1, 2);
            axisAndPlane(-1, 0, 1, -1, 2);
            rounds(4);
        }

        void rowsOf2002() {
            orbit(0, 1, 1);
            orbit(2, 3, 3);
            orbit(3, 2, -3);
            axisAndPlane(1, 0, 0, 1, -1);
            axisAndPlane(0, 1, 1, 1, -3);
            axisAndPlane(0, 0, 1, -1, -3);
            rounds(3);
        }

        /** An axis and a plane across it, that has its upper side to the axis (1) or away from it (-1). */
        private void axisAndPlane(int x, int y, int z, int up, int d) {
            axis(x, y, z);
            plane(up * x, up * y, up * z, d);
        }

        private void orbit(int x, int y, int z) {
            if (model.points.size() > 36) return;
            for (int[][] m : model.ways) {
                int[] q = Model.apply(m, new int[] {x, y, z});
                point(q[0], q[1], q[2]);
            }
        }

        private int wild(int count) {
            int dice = pick(40);
            if (dice == 0) return Integer.MIN_VALUE;
            if (dice == 1) return Integer.MAX_VALUE;
            if (dice == 2) return -1;
            if (dice == 3) return count;
            return count == 0 ? 0 : pick(count);
        }

        private int number(int low, int high) {
            int dice = pick(60);
            if (dice == 0) return low - 1;
            if (dice == 1) return high + 1;
            if (dice == 2) return Integer.MIN_VALUE;
            if (dice == 3) return Integer.MAX_VALUE;
            return between(low, high);
        }

        private void point(int x, int y, int z) {
            due("point(" + x + ", " + y + ", " + z + ")", real.point(x, y, z), model.point(x, y, z));
        }

        private void cube(int n) {
            due("cube(" + n + ")", real.cube(n), model.cube(n));
        }

        private void plane(int a, int b, int c, int d) {
            due("plane(" + a + ", " + b + ", " + c + ", " + d + ")", real.plane(a, b, c, d), model.plane(a, b, c, d));
        }

        private void axis(int x, int y, int z) {
            due("axis(" + x + ", " + y + ", " + z + ")", real.axis(x, y, z), model.axis(x, y, z));
        }

        private void call() {
            int a = wild(model.axes.size());
            int l = wild(model.planes.size());
            int p = wild(model.points.size());
            switch (pick(26)) {
                case 0: if (pick(10) == 0) point(number(-9, 9), number(-9, 9), number(-9, 9)); break;
                case 1: if (pick(30) == 0) cube(number(0, 2)); break;
                case 2: if (pick(4) == 0) plane(number(-9, 9), number(-9, 9), number(-9, 9), number(-99, 99)); break;
                case 3: if (pick(4) == 0) plane(between(-1, 1), between(-1, 1), between(-1, 1), number(-3, 3)); break;
                case 4: if (pick(4) == 0) axis(number(-1, 1), number(-1, 1), number(-1, 1)); break;
                case 5: due("order(" + a + ")", real.order(a), model.order(a)); break;
                case 6: due("side(" + p + ", " + l + ")", real.side(p, l), model.side(p, l)); break;
                case 7: due("pieces()", real.pieces(), model.pieces()); break;
                case 8: due("piece(" + p + ")", real.piece(p), model.piece(p)); break;
                case 9: due("image(" + a + ", " + p + ")", real.image(a, p), model.image(a, p)); break;
                case 10: case 11: maps(a); break;
                case 12: case 13: cycle(a, l, p); break;
                case 14: if (pick(5) == 0) rounds(number(1, 13)); break;
                case 15: if (pick(2) == 0) rounds(between(1, 4)); break;
                case 16: if (pick(2) == 0) due("keep()", real.keep(), model.keep()); break;
                case 17: back(wild(model.kept.size())); break;
                default: turnAndLook(a, l, number(1, 12)); break;
            }
        }

        private void maps(int a) {
            boolean want = model.maps(a);
            due("maps(" + a + ")", real.maps(a) ? 1 : 0, want ? 1 : 0);
            if (want && model.planes.size() > 1 && model.points.size() > 1) came.add("maps");
        }

        private void cycle(int a, int l, int p) {
            int want = model.cycle(a, l, p);
            due("cycle(" + a + ", " + l + ", " + p + ")", real.cycle(a, l, p), want);
            came.add("cycle " + want);
        }

        private void turnAndLook(int a, int l, int times) {
            int want = model.turn(a, l, times);
            due("turn(" + a + ", " + l + ", " + times + ")", real.turn(a, l, times), want);
            came.add(want < 0 ? "turn refused" : want == 0 ? "turn done" : "turn blocked");
            look();
        }

        private void rounds(int n) {
            int want = model.rounds(n);
            due("rounds(" + n + ")", real.rounds(n), want);
            came.add(want < 0 ? "rounds too long" : want == 0 ? "rounds none" : want > 200 ? "rounds long" : "rounds");
            look();
        }

        private void back(int state) {
            boolean want = model.back(state);
            due("back(" + state + ")", real.back(state) ? 1 : 0, want ? 1 : 0);
            if (want) came.add("back");
            look();
        }

        private void look() {
            due("home()", real.home(), model.home());
            for (int i = 0; i < 3; i++) {
                int p = wild(model.points.size());
                due("at(" + p + ")", real.at(p), model.at(p));
                due("way(" + p + ")", real.way(p), model.way(p));
            }
        }
    }

    private static final class Model {
        final List<int[]> points = new ArrayList<>();
        final List<int[]> planes = new ArrayList<>();
        final List<int[]> axes = new ArrayList<>();
        final List<int[]> kept = new ArrayList<>();
        final List<int[][]> ways = allWays();
        int[] at = {};
        int[][][] turned = {};
        final List<int[][][]> keptTurned = new ArrayList<>();

        static int[] apply(int[][] m, int[] p) {
            int[] q = new int[3];
            for (int i = 0; i < 3; i++) {
                for (int j = 0; j < 3; j++) q[i] += m[i][j] * p[j];
            }
            return q;
        }

        static int[][] times(int[][] m, int[][] n) {
            int[][] r = new int[3][3];
            for (int i = 0; i < 3; i++) {
                for (int j = 0; j < 3; j++) {
                    for (int k = 0; k < 3; k++) r[i][j] += m[i][k] * n[k][j];
                }
            }
            return r;
        }

        private static List<int[][]> allWays() {
            int[][] units = {{1, 0, 0}, {-1, 0, 0}, {0, 1, 0}, {0, -1, 0}, {0, 0, 1}, {0, 0, -1}};
            List<int[][]> all = new ArrayList<>();
            for (int[] u : units) {
                for (int[] v : units) {
                    for (int[] w : units) {
                        int[][] m = {{u[0], v[0], w[0]}, {u[1], v[1], w[1]}, {u[2], v[2], w[2]}};
                        if (determinant(m) == 1) all.add(m);
                    }
                }
            }
            return all;
        }

        private static int determinant(int[][] m) {
            return m[0][0] * (m[1][1] * m[2][2] - m[1][2] * m[2][1])
                - m[0][1] * (m[1][0] * m[2][2] - m[1][2] * m[2][0])
                + m[0][2] * (m[1][0] * m[2][1] - m[1][1] * m[2][0]);
        }

        /** Turned by the angle itself, in doubles. */
        private int[][] step(int axis) {
            int[] v = axes.get(axis);
            int parts = Math.abs(v[0]) + Math.abs(v[1]) + Math.abs(v[2]);
            double angle = 2 * Math.PI / order(axis);
            double length = Math.sqrt(parts);
            double x = v[0] / length;
            double y = v[1] / length;
            double z = v[2] / length;
            double c = Math.cos(angle);
            double s = Math.sin(angle);
            double t = 1 - c;
            double[][] r = {
                {t * x * x + c, t * x * y - s * z, t * x * z + s * y},
                {t * x * y + s * z, t * y * y + c, t * y * z - s * x},
                {t * x * z - s * y, t * y * z + s * x, t * z * z + c}};
            int[][] m = new int[3][3];
            for (int i = 0; i < 3; i++) {
                for (int j = 0; j < 3; j++) m[i][j] = (int) Math.round(r[i][j]);
            }
            return m;
        }

        private static boolean out(int value, int limit) {
            return value < -limit || value > limit;
        }

        private static boolean has(List<?> list, int number) {
            return number >= 0 && number < list.size();
        }

        private int find(int[] place) {
            for (int p = 0; p < points.size(); p++) {
                if (Arrays.equals(points.get(p), place)) return p;
            }
            return -1;
        }

        private void allOwn() {
            at = new int[points.size()];
            turned = new int[points.size()][][];
            for (int p = 0; p < at.length; p++) {
                at[p] = p;
                turned[p] = ways.get(0);
            }
        }

        int point(int x, int y, int z) {
            int[] place = {x, y, z};
            if (out(x, 9) || out(y, 9) || out(z, 9) || find(place) >= 0 || points.size() == 60) return -1;
            points.add(place);
            allOwn();
            return points.size() - 1;
        }

        int cube(int n) {
            if (n < 0 || n > 2) return -1;
            int before = points.size();
            for (int x = -n; x <= n; x++) {
                for (int y = -n; y <= n; y++) {
                    for (int z = -n; z <= n; z++) point(x, y, z);
                }
            }
            allOwn();
            return points.size() - before;
        }

        int plane(int a, int b, int c, int d) {
            if (out(a, 9) || out(b, 9) || out(c, 9) || out(d, 99) || planes.size() == 20) return -1;
            if (a == 0 && b == 0 && c == 0) return -1;
            planes.add(new int[] {a, b, c, d});
            return planes.size() - 1;
        }

        int axis(int x, int y, int z) {
            if (out(x, 1) || out(y, 1) || out(z, 1) || axes.size() == 13) return -1;
            if (x == 0 && y == 0 && z == 0) return -1;
            axes.add(new int[] {x, y, z});
            return axes.size() - 1;
        }

        int order(int axis) {
            if (!has(axes, axis)) return 0;
            int zeros = 0;
            for (int part : axes.get(axis)) zeros += part == 0 ? 1 : 0;
            return zeros == 2 ? 4 : zeros == 1 ? 2 : 3;
        }

        int side(int point, int plane) {
            if (!has(points, point) || !has(planes, plane)) return -1;
            int[] p = points.get(point);
            int[] q = planes.get(plane);
            return 1 + Integer.signum(q[0] * p[0] + q[1] * p[1] + q[2] * p[2] - q[3]);
        }

        private List<String> signs() {
            List<String> pieces = new ArrayList<>();
            for (int p = 0; p < points.size(); p++) {
                if (!pieces.contains(sign(p))) pieces.add(sign(p));
            }
            return pieces;
        }

        private String sign(int point) {
            StringBuilder text = new StringBuilder();
            for (int l = 0; l < planes.size(); l++) text.append(side(point, l));
            return text.toString();
        }

        int pieces() {
            return signs().size();
        }

        int piece(int point) {
            return has(points, point) ? signs().indexOf(sign(point)) : -1;
        }

        int image(int axis, int point) {
            if (!has(axes, axis) || !has(points, point)) return -1;
            return find(apply(step(axis), points.get(point)));
        }

        private int blocker(int axis, int plane) {
            for (int p = 0; p < points.size(); p++) {
                if (side(p, plane) == 2 && side(image(axis, p), plane) != 2) return p;
            }
            return -1;
        }

        /** Where a turn takes all points, those that stay to themselves. */
        private int[] places(int axis, int plane) {
            int[] to = new int[points.size()];
            for (int p = 0; p < to.length; p++) to[p] = side(p, plane) == 2 ? image(axis, p) : p;
            return to;
        }

        private void turnOnce(int[] to, int[][] step, int plane, boolean[] above) {
            int[] newAt = new int[at.length];
            int[][][] newTurned = new int[at.length][][];
            for (int p = 0; p < at.length; p++) {
                newAt[to[p]] = at[p];
                newTurned[to[p]] = above[p] ? times(step, turned[p]) : turned[p];
            }
            at = newAt;
            turned = newTurned;
        }

        private boolean[] above(int plane) {
            boolean[] above = new boolean[points.size()];
            for (int p = 0; p < above.length; p++) above[p] = side(p, plane) == 2;
            return above;
        }

        int turn(int axis, int plane, int times) {
            if (!has(axes, axis) || !has(planes, plane) || times < 1 || times > 12) return -1;
            int blocker = blocker(axis, plane);
            if (blocker >= 0) return 1 + blocker;
            for (int i = 0; i < times; i++) turnOnce(places(axis, plane), step(axis), plane, above(plane));
            return 0;
        }

        int at(int point) {
            return has(points, point) ? at[point] : -1;
        }

        int way(int point) {
            if (!has(points, point)) return -1;
            for (int w = 0; w < ways.size(); w++) {
                if (Arrays.deepEquals(ways.get(w), turned[point])) return w;
            }
            return -99;
        }

        int home() {
            int count = 0;
            for (int p = 0; p < points.size(); p++) count += at[p] == p && way(p) == 0 ? 1 : 0;
            return count;
        }

        private static List<Integer> inSpace(int a, int b, int c, int d) {
            int g = 0;
            for (int k = 1; k <= 99; k++) {
                if (a % k == 0 && b % k == 0 && c % k == 0 && d % k == 0) g = k;
            }
            int lead = a != 0 ? a : b != 0 ? b : c;
            if (lead < 0) g = -g;
            return List.of(a / g, b / g, c / g, d / g);
        }

        boolean maps(int axis) {
            if (!has(axes, axis)) return false;
            for (int p = 0; p < points.size(); p++) {
                if (image(axis, p) < 0) return false;
            }
            List<List<Integer>> there = new ArrayList<>();
            for (int[] q : planes) there.add(inSpace(q[0], q[1], q[2], q[3]));
            for (int[] q : planes) {
                int[] n = apply(step(axis), q);
                if (!there.contains(inSpace(n[0], n[1], n[2], q[3]))) return false;
            }
            return true;
        }

        int cycle(int axis, int plane, int point) {
            if (!has(axes, axis) || !has(planes, plane) || !has(points, point)) return 0;
            if (blocker(axis, plane) >= 0) return 0;
            int[] to = places(axis, plane);
            int length = 1;
            for (int p = to[point]; p != point; p = to[p]) length++;
            return length;
        }

        int rounds(int n) {
            if (n < 1 || n > 13 || n > axes.size() || n > planes.size()) return 0;
            List<int[]> places = new ArrayList<>();
            List<int[][]> steps = new ArrayList<>();
            List<boolean[]> aboves = new ArrayList<>();
            for (int i = 0; i < n; i++) {
                if (blocker(i, i) >= 0) return 0;
                places.add(places(i, i));
                steps.add(step(i));
                aboves.add(above(i));
            }
            int[] firstAt = at;
            int[][][] firstTurned = turned;
            int answer = -1;
            for (int rows = 1; rows <= 2000 && answer < 0; rows++) {
                for (int i = 0; i < n; i++) turnOnce(places.get(i), steps.get(i), i, aboves.get(i));
                if (Arrays.equals(at, firstAt) && Arrays.deepEquals(turned, firstTurned)) answer = rows;
            }
            at = firstAt;
            turned = firstTurned;
            return answer;
        }

        int keep() {
            if (kept.size() == 10) return -1;
            kept.add(at.clone());
            keptTurned.add(turned.clone());
            return kept.size() - 1;
        }

        boolean back(int state) {
            if (!has(kept, state) || kept.get(state).length != points.size()) return false;
            at = kept.get(state).clone();
            turned = keptTurned.get(state).clone();
            return true;
        }
    }
}
