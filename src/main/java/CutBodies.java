import java.util.Arrays;

/** Bodies of points cut by planes, and turns of what lies above a plane. */
public final class CutBodies {
    private static final int MOST_POINTS = 60;
    private static final int MOST_PLANES = 20;
    private static final int MOST_AXES = 13;
    private static final int MOST_KEPT = 10;
    private static final int MOST_TIMES = 12;
    private static final int MOST_ROWS = 2000;
    private static final int WIDEST_CUBE = 2;
    private static final int ABOVE = 2;
    private static final int NONE = -1;

    private final Body body;
    private final int[] steps;
    private int axisCount;
    private final Contents now;
    private final Contents row;
    private final Contents spare;
    private final int[] targets;
    private final Contents[] kept;
    private final int[] keptPoints;
    private int keptCount;

    public CutBodies() {
        body = new Body();
        steps = new int[MOST_AXES];
        axisCount = 0;
        now = new Contents();
        row = new Contents();
        spare = new Contents();
        targets = new int[MOST_POINTS];
        kept = new Contents[MOST_KEPT];
        keptPoints = new int[MOST_KEPT];
        keptCount = 0;
    }

    public int point(int x, int y, int z) {
        int number = body.addPoint(x, y, z);
        if (number != NONE) {
            now.putAllHome();
        }
        return number;
    }

    public int cube(int n) {
        if (n < 0 || n > WIDEST_CUBE) {
            return NONE;
        }
        int came = 0;
        for (int x = -n; x <= n; x++) {
            for (int y = -n; y <= n; y++) {
                for (int z = -n; z <= n; z++) {
                    if (body.addPoint(x, y, z) != NONE) {
                        came++;
                    }
                }
            }
        }
        now.putAllHome();
        return came;
    }

    public int plane(int a, int b, int c, int d) {
        return body.addPlane(a, b, c, d);
    }

    public int axis(int x, int y, int z) {
        if (!isWithin(x, 1) || !isWithin(y, 1) || !isWithin(z, 1)) {
            return NONE;
        }
        if ((x == 0 && y == 0 && z == 0) || axisCount >= MOST_AXES) {
            return NONE;
        }
        steps[axisCount] = Ways.stepAbout(x, y, z);
        axisCount++;
        return axisCount - 1;
    }

    public int order(int axis) {
        return hasAxis(axis) ? Ways.orderOf(steps[axis]) : 0;
    }

    public int side(int point, int plane) {
        return body.hasPoint(point) && body.hasPlane(plane) ? body.sideOf(point, plane) : NONE;
    }

    public int pieces() {
        return body.piecesBefore(body.pointCount);
    }

    public int piece(int point) {
        return body.hasPoint(point) ? body.piecesBefore(body.leastAlike(point)) : NONE;
    }

    public int image(int axis, int point) {
        return hasAxis(axis) && body.hasPoint(point) ? body.imageOf(point, steps[axis]) : NONE;
    }

    public int turn(int axis, int plane, int times) {
        if (!hasAxis(axis) || !body.hasPlane(plane) || times < 1 || times > MOST_TIMES) {
            return NONE;
        }
        int blocker = findTargets(axis, plane);
        if (blocker != NONE) {
            return 1 + blocker;
        }
        for (int i = 0; i < times; i++) {
            turnByTargets(now, steps[axis]);
        }
        return 0;
    }

    public int at(int point) {
        return body.hasPoint(point) ? now.origin[point] : NONE;
    }

    public int way(int point) {
        return body.hasPoint(point) ? now.turned[point] : NONE;
    }

    public int home() {
        int count = 0;
        for (int p = 0; p < body.pointCount; p++) {
            if (now.origin[p] == p && now.turned[p] == 0) {
                count++;
            }
        }
        return count;
    }

    public boolean maps(int axis) {
        return hasAxis(axis) && body.takesPointsToPoints(steps[axis])
            && body.takesPlanesToPlanes(steps[axis]);
    }

    public int cycle(int axis, int plane, int point) {
        if (!hasAxis(axis) || !body.hasPlane(plane) || !body.hasPoint(point)) {
            return 0;
        }
        if (findTargets(axis, plane) != NONE) {
            return 0;
        }
        int length = 1;
        int reached = targets[point];
        while (reached != NONE && reached != point && length < MOST_POINTS) {
            reached = targets[reached];
            length++;
        }
        return length;
    }

    public int rounds(int n) {
        if (n < 1 || n > axisCount || n > body.planeCount) {
            return 0;
        }
        row.putAllHome();
        for (int i = 0; i < n; i++) {
            if (findTargets(i, i) != NONE) {
                return 0;
            }
            turnByTargets(row, steps[i]);
        }
        return rowsUntilBack();
    }

    public int keep() {
        if (keptCount >= MOST_KEPT) {
            return NONE;
        }
        Contents copy = new Contents();
        copy.copyFrom(now);
        kept[keptCount] = copy;
        keptPoints[keptCount] = body.pointCount;
        keptCount++;
        return keptCount - 1;
    }

    public boolean back(int state) {
        if (state < 0 || state >= keptCount) {
            return false;
        }
        Contents copy = kept[state];
        // Points never go, so an equal count tells that none came.
        if (copy == null || keptPoints[state] != body.pointCount) {
            return false;
        }
        now.copyFrom(copy);
        return true;
    }

    private boolean hasAxis(int axis) {
        return axis >= 0 && axis < axisCount;
    }

    private static boolean isWithin(int value, int limit) {
        return value >= -limit && value <= limit;
    }

    /** Fills targets (NONE for a point that is not above); answers the least blocking point or NONE. */
    private int findTargets(int axis, int plane) {
        for (int p = 0; p < body.pointCount; p++) {
            targets[p] = NONE;
            if (body.sideOf(p, plane) == ABOVE) {
                int target = body.imageOf(p, steps[axis]);
                if (target == NONE || body.sideOf(target, plane) != ABOVE) {
                    return p;
                }
                targets[p] = target;
            }
        }
        return NONE;
    }

    private void turnByTargets(Contents contents, int step) {
        spare.copyFrom(contents);
        for (int p = 0; p < body.pointCount; p++) {
            int target = targets[p];
            if (target != NONE) {
                contents.origin[target] = spare.origin[p];
                contents.turned[target] = Ways.compose(step, spare.turned[p]);
            }
        }
    }

    /**
     * A row of turns moves and turns whatever is at the points alike, so the rows that bring all
     * back are the common multiples of what each point needs, whatever is there now.
     */
    private int rowsUntilBack() {
        int rows = 1;
        for (int p = 0; p < body.pointCount && rows <= MOST_ROWS; p++) {
            rows = commonMultiple(rows, row.rowsUntilBackAt(p));
        }
        return rows <= MOST_ROWS ? rows : NONE;
    }

    /** The least common multiple, or MOST_ROWS + 1 when it is greater than MOST_ROWS. */
    private static int commonMultiple(int first, int second) {
        if (first < 1 || second < 1) {
            return MOST_ROWS + 1;
        }
        for (int multiple = first; multiple <= MOST_ROWS; multiple += first) {
            if (multiple % second == 0) {
                return multiple;
            }
        }
        return MOST_ROWS + 1;
    }

    /** The points, the planes, and on which sides of the planes the points lie. */
    private static final class Body {
        private static final int FARTHEST = 9;
        private static final int STEEPEST = 9;
        private static final int GREATEST_D = 99;

        private final int[] x;
        private final int[] y;
        private final int[] z;
        private int pointCount;
        private final int[] a;
        private final int[] b;
        private final int[] c;
        private final int[] d;
        private int planeCount;
        // Two bits a plane, so that points of one piece have equal numbers.
        private final long[] sides;

        Body() {
            x = new int[MOST_POINTS];
            y = new int[MOST_POINTS];
            z = new int[MOST_POINTS];
            pointCount = 0;
            a = new int[MOST_PLANES];
            b = new int[MOST_PLANES];
            c = new int[MOST_PLANES];
            d = new int[MOST_PLANES];
            planeCount = 0;
            sides = new long[MOST_POINTS];
        }

        boolean hasPoint(int point) {
            return point >= 0 && point < pointCount;
        }

        boolean hasPlane(int plane) {
            return plane >= 0 && plane < planeCount;
        }

        int addPoint(int px, int py, int pz) {
            if (!isWithin(px, FARTHEST) || !isWithin(py, FARTHEST) || !isWithin(pz, FARTHEST)) {
                return NONE;
            }
            if (pointCount >= MOST_POINTS || pointAt(px, py, pz) != NONE) {
                return NONE;
            }
            int point = pointCount;
            x[point] = px;
            y[point] = py;
            z[point] = pz;
            pointCount++;
            for (int plane = 0; plane < planeCount; plane++) {
                noteSide(point, plane);
            }
            return point;
        }

        int addPlane(int pa, int pb, int pc, int pd) {
            if (!isWithin(pa, STEEPEST) || !isWithin(pb, STEEPEST) || !isWithin(pc, STEEPEST)) {
                return NONE;
            }
            if ((pa == 0 && pb == 0 && pc == 0) || !isWithin(pd, GREATEST_D)) {
                return NONE;
            }
            if (planeCount >= MOST_PLANES) {
                return NONE;
            }
            int plane = planeCount;
            a[plane] = pa;
            b[plane] = pb;
            c[plane] = pc;
            d[plane] = pd;
            planeCount++;
            for (int point = 0; point < pointCount; point++) {
                noteSide(point, plane);
            }
            return plane;
        }

        private void noteSide(int point, int plane) {
            int height = a[plane] * x[point] + b[plane] * y[point] + c[plane] * z[point] - d[plane];
            long side = height < 0 ? 0L : height == 0 ? 1L : ABOVE;
            sides[point] |= side << (2 * plane);
        }

        int sideOf(int point, int plane) {
            return (int) ((sides[point] >> (2 * plane)) & 3L);
        }

        int pointAt(int px, int py, int pz) {
            for (int p = 0; p < pointCount; p++) {
                if (x[p] == px && y[p] == py && z[p] == pz) {
                    return p;
                }
            }
            return NONE;
        }

        int imageOf(int point, int step) {
            int px = x[point];
            int py = y[point];
            int pz = z[point];
            return pointAt(Ways.coordinate(step, 0, px, py, pz), Ways.coordinate(step, 1, px, py, pz),
                Ways.coordinate(step, 2, px, py, pz));
        }

        int leastAlike(int point) {
            for (int p = 0; p < point; p++) {
                if (sides[p] == sides[point]) {
                    return p;
                }
            }
            return point;
        }

        /** How many pieces have a least point less than this one. */
        int piecesBefore(int point) {
            int count = 0;
            for (int p = 0; p < point; p++) {
                if (leastAlike(p) == p) {
                    count++;
                }
            }
            return count;
        }

        boolean takesPointsToPoints(int step) {
            for (int p = 0; p < pointCount; p++) {
                if (imageOf(p, step) == NONE) {
                    return false;
                }
            }
            return true;
        }

        boolean takesPlanesToPlanes(int step) {
            for (int plane = 0; plane < planeCount; plane++) {
                int pa = Ways.coordinate(step, 0, a[plane], b[plane], c[plane]);
                int pb = Ways.coordinate(step, 1, a[plane], b[plane], c[plane]);
                int pc = Ways.coordinate(step, 2, a[plane], b[plane], c[plane]);
                if (!hasPlaneWhere(pa, pb, pc, d[plane])) {
                    return false;
                }
            }
            return true;
        }

        private boolean hasPlaneWhere(int pa, int pb, int pc, int pd) {
            for (int plane = 0; plane < planeCount; plane++) {
                if (isSamePlane(plane, pa, pb, pc, pd)) {
                    return true;
                }
            }
            return false;
        }

        // Planes are the same in space when their four numbers are in one ratio, of either sign.
        private boolean isSamePlane(int plane, int pa, int pb, int pc, int pd) {
            return a[plane] * pb == b[plane] * pa && a[plane] * pc == c[plane] * pa
                && b[plane] * pc == c[plane] * pb && a[plane] * pd == d[plane] * pa
                && b[plane] * pd == d[plane] * pb && c[plane] * pd == d[plane] * pc;
        }
    }

    /** What is at the points: where it was at first and the way in which it is turned. */
    private static final class Contents {
        private final int[] origin;
        private final int[] turned;

        Contents() {
            origin = new int[MOST_POINTS];
            turned = new int[MOST_POINTS];
            for (int p = 0; p < MOST_POINTS; p++) {
                origin[p] = p;
            }
        }

        void putAllHome() {
            for (int p = 0; p < MOST_POINTS; p++) {
                origin[p] = p;
            }
            Arrays.fill(turned, 0);
        }

        void copyFrom(Contents other) {
            System.arraycopy(other.origin, 0, origin, 0, MOST_POINTS);
            System.arraycopy(other.turned, 0, turned, 0, MOST_POINTS);
        }

        /** With these contents as what one row does: how many rows bring a point's own back, unturned. */
        int rowsUntilBackAt(int point) {
            int length = 0;
            int total = 0;
            int reached = point;
            do {
                total = Ways.compose(total, turned[reached]);
                reached = origin[reached];
                length++;
            } while (reached != point && length < MOST_POINTS);
            return length * Ways.orderOf(total);
        }
    }

    /**
     * The 24 ways by their numbers. Directions are numbered in the document's order: +x, -x, +y, -y,
     * +z, -z; so direction / 2 is the coordinate and an odd direction is a negative one.
     */
    private static final class Ways {
        private static final int GREATEST_ORDER = 4;

        private static int xGoesTo(int way) {
            return way / 4;
        }

        // Four directions are left for y: all but the two of the coordinate that x goes to, way / 8.
        private static int yGoesTo(int way) {
            int rank = way % 4;
            int taken = way / 8 * 2;
            return rank < taken ? rank : rank + 2;
        }

        /** Where z goes when x and y go to these two directions. */
        private static int across(int first, int second) {
            int coordinate = 3 - first / 2 - second / 2;
            int oddSwap = (first / 2 + 1) % 3 == second / 2 ? 0 : 1;
            return 2 * coordinate + ((first + second + oddSwap) % 2);
        }

        private static int numberOf(int xTo, int yTo) {
            return 4 * xTo + (yTo < xTo ? yTo : yTo - 2);
        }

        private static int directionTo(int way, int direction) {
            int coordinate = direction / 2;
            int xTo = xGoesTo(way);
            int yTo = yGoesTo(way);
            int to = coordinate == 0 ? xTo : coordinate == 1 ? yTo : across(xTo, yTo);
            return to ^ (direction & 1);
        }

        /** The way that turns by one way first and by another then. */
        static int compose(int then, int first) {
            return numberOf(directionTo(then, xGoesTo(first)), directionTo(then, yGoesTo(first)));
        }

        static int orderOf(int way) {
            int power = way;
            int order = 1;
            while (power != 0 && order < GREATEST_ORDER) {
                power = compose(way, power);
                order++;
            }
            return order;
        }

        /** One coordinate (0, 1, 2) of where a way takes (x, y, z). */
        static int coordinate(int way, int coordinate, int x, int y, int z) {
            int xTo = xGoesTo(way);
            int yTo = yGoesTo(way);
            return part(xTo, coordinate, x) + part(yTo, coordinate, y) + part(across(xTo, yTo), coordinate, z);
        }

        private static int part(int direction, int coordinate, int value) {
            if (direction / 2 != coordinate) {
                return 0;
            }
            return direction % 2 == 0 ? value : -value;
        }

        /**
         * The turn of p about v by its angle: v (v.p) + v x p for a quarter, v (v.p) - p for a half,
         * half of v (v.p) - p + v x p for a third, which has the same direction without the halving;
         * here for p = (1, 0, 0) and p = (0, 1, 0).
         */
        static int stepAbout(int x, int y, int z) {
            int parts = x * x + y * y + z * z;
            int spin = parts == 2 ? 0 : 1;
            int minus = parts == 1 ? 0 : 1;
            int xTo = directionOf(x * x - minus, x * y + spin * z, x * z - spin * y);
            int yTo = directionOf(x * y - spin * z, y * y - minus, y * z + spin * x);
            return numberOf(xTo, yTo);
        }

        private static int directionOf(int x, int y, int z) {
            if (x != 0) {
                return x > 0 ? 0 : 1;
            }
            if (y != 0) {
                return y > 0 ? 2 : 3;
            }
            return z > 0 ? 4 : 5;
        }
    }
}
