/** Each promise of the document: ordinary inputs, the edges it names, wrong inputs. */
public final class PromiseTest {
    private static final int[] FAR = {Integer.MIN_VALUE, -1000000007, 1000000007, Integer.MAX_VALUE};
    private static int wrong = 0;

    private static void due(String call, long got, long want) {
        if (got != want) {
            wrong++;
            System.out.println(call + " answered " + got + ", due is " + want);
        }
    }

    private static void due(String call, boolean got, boolean want) {
        due(call, got ? 1 : 0, want ? 1 : 0);
    }

    public static void main(String[] args) {
        newObject();
        point();
        pointsTakeAllHome();
        cube();
        cubeTakesAllHome();
        plane();
        axis();
        order();
        side();
        pieces();
        image();
        imagesOfAllAxes();
        turn();
        turnBlocked();
        turnTimes();
        atAndWay();
        ways();
        home();
        maps();
        mapsPlanes();
        cycle();
        rounds();
        roundsFromWhatIsNow();
        roundsFar();
        keep();
        back();
        farNumbers();
        System.out.println(wrong == 0 ? "all promises are kept" : wrong + " answers are not as due");
        if (wrong != 0) System.exit(1);
    }

    private static void newObject() {
        CutBodies x = new CutBodies();
        due("1: pieces()", x.pieces(), 0);
        due("1: home()", x.home(), 0);
        due("1: at(0)", x.at(0), -1);
        due("1: way(0)", x.way(0), -1);
        due("1: piece(0)", x.piece(0), -1);
        due("1: order(0)", x.order(0), 0);
        due("1: side(0, 0)", x.side(0, 0), -1);
        due("1: image(0, 0)", x.image(0, 0), -1);
        due("1: turn(0, 0, 1)", x.turn(0, 0, 1), -1);
        due("1: maps(0)", x.maps(0), false);
        due("1: cycle(0, 0, 0)", x.cycle(0, 0, 0), 0);
        due("1: rounds(1)", x.rounds(1), 0);
        due("1: back(0)", x.back(0), false);
        CutBodies y = new CutBodies();
        x.point(1, 2, 3);
        due("1: another object's at(0)", y.at(0), -1);
    }

    private static void point() {
        CutBodies x = new CutBodies();
        due("2: first", x.point(9, -9, 9), 0);
        due("2: second", x.point(-9, 9, -9), 1);
        due("2: there", x.point(9, -9, 9), -1);
        due("2: x 10", x.point(10, 0, 0), -1);
        due("2: x -10", x.point(-10, 0, 0), -1);
        due("2: y 10", x.point(0, 10, 0), -1);
        due("2: y -10", x.point(0, -10, 0), -1);
        due("2: z 10", x.point(0, 0, 10), -1);
        due("2: z -10", x.point(0, 0, -10), -1);
        due("2: alike in x, y", x.point(9, -9, 8), 2);
        due("2: alike in y, z", x.point(8, -9, 9), 3);
        due("2: alike in x, z", x.point(9, -8, 9), 4);
        for (int i = 5; i < 60; i++) due("2: many", x.point(i % 9, i / 9, 1), i);
        due("2: the 61st", x.point(0, 0, 0), -1);
        due("2: at(59)", x.at(59), 59);
        due("2: at(60)", x.at(60), -1);
    }

    private static void pointsTakeAllHome() {
        CutBodies x = turnedCross();
        due("2: home before", x.home(), 0);
        due("2: one that is there", x.point(0, 0, 0), -1);
        due("2: one too far", x.point(0, 0, 10), -1);
        due("2: nothing done", x.home(), 0);
        due("2: a new one", x.point(0, 5, 0), 5);
        due("2: home after", x.home(), 6);
        due("2: at(1) after", x.at(1), 1);
        due("2: way(0) after", x.way(0), 0);
    }

    /** The middle and four points round the y axis, all above plane 0, turned once: none is home. */
    private static CutBodies turnedCross() {
        CutBodies x = new CutBodies();
        x.point(0, 0, 0);
        x.point(1, 0, 0);
        x.point(0, 0, -1);
        x.point(-1, 0, 0);
        x.point(0, 0, 1);
        x.axis(0, 1, 0);
        x.plane(0, 1, 0, -1);
        x.turn(0, 0, 1);
        return x;
    }

    private static void cube() {
        CutBodies x = new CutBodies();
        due("3: -1", x.cube(-1), -1);
        due("3: 3", x.cube(3), -1);
        due("3: 0", x.cube(0), 1);
        due("3: 0 again", x.cube(0), 0);
        due("3: 1 round it", x.cube(1), 26);
        x.plane(1, 0, 0, 0);
        x.plane(0, 1, 0, 0);
        x.plane(0, 0, 1, 0);
        dueSides(x, 0, 1, 1, 1);
        dueSides(x, 1, 0, 0, 0);
        dueSides(x, 2, 0, 0, 1);
        dueSides(x, 4, 0, 1, 0);
        dueSides(x, 10, 1, 0, 0);
        dueSides(x, 14, 1, 1, 2);
        dueSides(x, 26, 2, 2, 2);
        due("3: 2, as many as there is room for", x.cube(2), 33);
        due("3: full", x.cube(2), 0);
        due("3: full, not so", x.cube(3), -1);
        due("3: at(59)", x.at(59), 59);
        CutBodies y = new CutBodies();
        due("3: 2 on nothing", y.cube(2), 60);
        y.plane(1, 0, 0, 0);
        y.plane(0, 1, 0, 0);
        y.plane(0, 0, 1, 0);
        dueSides(y, 0, 0, 0, 0);
        dueSides(y, 25, 0, 0, 0);
        dueSides(y, 50, 1, 0, 0);
        dueSides(y, 59, 1, 0, 2);
    }

    private static void dueSides(CutBodies x, int point, int first, int second, int third) {
        due("3: side(" + point + ", 0)", x.side(point, 0), first);
        due("3: side(" + point + ", 1)", x.side(point, 1), second);
        due("3: side(" + point + ", 2)", x.side(point, 2), third);
    }

    private static void cubeTakesAllHome() {
        CutBodies x = turnedCross();
        due("3: not so", x.cube(3), -1);
        due("3: nothing done", x.home(), 0);
        due("3: none comes", x.cube(0), 0);
        due("3: all home all the same", x.home(), 5);
        x.turn(0, 0, 1);
        due("3: some come", x.cube(1), 22);
        due("3: all home", x.home(), 27);
    }

    private static void plane() {
        CutBodies x = new CutBodies();
        due("4: all 0", x.plane(0, 0, 0, 1), -1);
        due("4: a 10", x.plane(10, 0, 0, 0), -1);
        due("4: a -10", x.plane(-10, 0, 0, 0), -1);
        due("4: b 10", x.plane(0, 10, 0, 0), -1);
        due("4: b -10", x.plane(0, -10, 0, 0), -1);
        due("4: c 10", x.plane(0, 0, 10, 0), -1);
        due("4: c -10", x.plane(0, 0, -10, 0), -1);
        due("4: d 100", x.plane(1, 0, 0, 100), -1);
        due("4: d -100", x.plane(1, 0, 0, -100), -1);
        due("4: first", x.plane(9, -9, 9, 99), 0);
        due("4: second", x.plane(-9, 9, -9, -99), 1);
        due("4: the same again", x.plane(9, -9, 9, 99), 2);
        due("4: b alone", x.plane(0, 1, 0, 0), 3);
        due("4: c alone", x.plane(0, 0, 1, 0), 4);
        for (int i = 5; i < 20; i++) due("4: many", x.plane(1, 0, 0, i), i);
        due("4: the 21st", x.plane(1, 0, 0, 0), -1);
        CutBodies y = turnedCross();
        due("4: behind a turn", y.plane(1, 1, 1, 1), 1);
        due("4: what is at the points stays", y.at(1), 4);
    }

    private static void axis() {
        CutBodies x = new CutBodies();
        due("5: all 0", x.axis(0, 0, 0), -1);
        due("5: x 2", x.axis(2, 0, 0), -1);
        due("5: x -2", x.axis(-2, 0, 1), -1);
        due("5: y 2", x.axis(0, 2, 0), -1);
        due("5: y -2", x.axis(1, -2, 0), -1);
        due("5: z 2", x.axis(0, 0, 2), -1);
        due("5: z -2", x.axis(1, 1, -2), -1);
        due("5: first", x.axis(1, 1, 1), 0);
        due("5: second", x.axis(-1, -1, -1), 1);
        due("5: the same again", x.axis(1, 1, 1), 2);
        for (int i = 3; i < 13; i++) due("5: many", x.axis(0, 0, 1), i);
        due("5: the 14th", x.axis(0, 0, 1), -1);
        due("5: no other number", x.order(13), 0);
    }

    private static void order() {
        CutBodies x = new CutBodies();
        int[][] axes = {{0, 0, 1}, {0, -1, 0}, {1, 0, 0}, {1, 1, 0}, {0, -1, 1}, {-1, 0, -1}, {1, 1, 1}, {-1, 1, -1},
            {-1, -1, -1}};
        int[] orders = {4, 4, 4, 2, 2, 2, 3, 3, 3};
        for (int i = 0; i < axes.length; i++) {
            x.axis(axes[i][0], axes[i][1], axes[i][2]);
            due("6: order(" + i + ")", x.order(i), orders[i]);
        }
        due("6: order(9)", x.order(9), 0);
        due("6: order(-1)", x.order(-1), 0);
    }

    private static void side() {
        CutBodies x = new CutBodies();
        x.plane(2, -3, 4, 5);
        x.point(0, 0, 0);
        x.point(1, 1, 1);
        x.point(3, -1, -1);
        x.point(-9, 9, -9);
        x.point(0, 1, 2);
        x.plane(-9, -9, -9, -99);
        due("7: below", x.side(0, 0), 0);
        due("7: below by 2", x.side(1, 0), 0);
        due("7: on", x.side(2, 0), 1);
        due("7: far below", x.side(3, 0), 0);
        due("7: on again", x.side(4, 0), 1);
        due("7: above a later plane", x.side(0, 1), 2);
        due("7: above by 9 less", x.side(2, 1), 2);
        x.point(9, 1, 1);
        x.point(9, 1, 2);
        due("7: on by -99", x.side(5, 1), 1);
        due("7: below by -108", x.side(6, 1), 0);
        due("7: no point", x.side(7, 0), -1);
        due("7: point -1", x.side(-1, 0), -1);
        due("7: no plane", x.side(0, 2), -1);
        due("7: plane -1", x.side(0, -1), -1);
        for (int i = 2; i < 20; i++) x.plane(0, 0, 1, 0);
        due("7: the last plane, on", x.side(0, 19), 1);
        due("7: the last plane, above", x.side(1, 19), 2);
        due("7: the last plane, below", x.side(2, 19), 0);
    }

    private static void pieces() {
        CutBodies x = new CutBodies();
        due("8: no points", x.pieces(), 0);
        x.plane(1, 0, 0, 0);
        due("8: a plane, no points", x.pieces(), 0);
        CutBodies y = new CutBodies();
        y.cube(1);
        due("8: no planes", y.pieces(), 1);
        due("9: no planes", y.piece(26), 0);
        y.plane(1, 0, 0, 0);
        due("8: below, on, above", y.pieces(), 3);
        due("9: below", y.piece(8), 0);
        due("9: on", y.piece(9), 1);
        due("9: above", y.piece(26), 2);
        due("9: above, its least", y.piece(18), 2);
        y.plane(2, 0, 0, 0);
        y.plane(-1, 0, 0, 0);
        due("8: the same plane again", y.pieces(), 3);
        y.plane(1, 1, 1, 2);
        due("8: a corner off", y.pieces(), 6);
        due("9: (0, 1, 1), on both", y.piece(17), 2);
        due("9: (1, -1, -1), pieces by their least points", y.piece(18), 3);
        due("9: (1, 0, 1), on it", y.piece(23), 4);
        due("9: (1, 1, 0), on it", y.piece(25), 4);
        due("9: (1, 1, 1), above", y.piece(26), 5);
        due("9: none such", y.piece(27), -1);
        due("9: -1", y.piece(-1), -1);
        y.axis(1, 0, 0);
        y.turn(0, 0, 1);
        due("9: turns leave the pieces", y.piece(23), 4);
    }

    private static void image() {
        CutBodies x = new CutBodies();
        x.point(1, 2, 3);
        x.point(1, -3, 2);
        x.point(3, 2, -1);
        x.point(-2, 1, 3);
        x.point(3, 1, 2);
        x.point(2, 1, -3);
        x.axis(1, 0, 0);
        x.axis(0, 1, 0);
        x.axis(0, 0, 1);
        x.axis(1, 1, 1);
        x.axis(1, 1, 0);
        x.axis(-1, 0, 0);
        x.axis(-1, -1, 0);
        due("10: about x", x.image(0, 0), 1);
        due("10: about y", x.image(1, 0), 2);
        due("10: about z", x.image(2, 0), 3);
        due("10: about (1, 1, 1)", x.image(3, 0), 4);
        due("10: about (1, 1, 0)", x.image(4, 0), 5);
        due("10: about -x, back", x.image(5, 1), 0);
        due("10: about -x, none there", x.image(5, 0), -1);
        due("10: about (-1, -1, 0)", x.image(6, 0), 5);
        due("10: none there", x.image(0, 1), -1);
        due("10: no axis", x.image(7, 0), -1);
        due("10: axis -1", x.image(-1, 0), -1);
        due("10: no point", x.image(0, 6), -1);
        due("10: point -1", x.image(0, -1), -1);
    }

    /** Where (1, 2, 3) comes about each of the 26 axes, written out. */
    private static void imagesOfAllAxes() {
        int[][] rows = {
            {1, 0, 0, 1, -3, 2}, {-1, 0, 0, 1, 3, -2}, {0, 1, 0, 3, 2, -1}, {0, -1, 0, -3, 2, 1},
            {0, 0, 1, -2, 1, 3}, {0, 0, -1, 2, -1, 3},
            {1, 1, 0, 2, 1, -3}, {-1, -1, 0, 2, 1, -3}, {1, -1, 0, -2, -1, -3}, {-1, 1, 0, -2, -1, -3},
            {1, 0, 1, 3, -2, 1}, {-1, 0, -1, 3, -2, 1}, {1, 0, -1, -3, -2, -1}, {-1, 0, 1, -3, -2, -1},
            {0, 1, 1, -1, 3, 2}, {0, -1, -1, -1, 3, 2}, {0, 1, -1, -1, -3, -2}, {0, -1, 1, -1, -3, -2},
            {1, 1, 1, 3, 1, 2}, {-1, -1, -1, 2, 3, 1},
            {1, 1, -1, 2, -3, -1}, {-1, -1, 1, -3, 1, -2},
            {1, -1, 1, -2, -3, 1}, {-1, 1, -1, 3, -1, -2},
            {-1, 1, 1, -2, 3, -1}, {1, -1, -1, -3, -1, 2}};
        for (int[] row : rows) {
            CutBodies x = new CutBodies();
            x.axis(row[0], row[1], row[2]);
            x.point(1, 2, 3);
            x.point(row[3], row[4], row[5]);
            due("10: about (" + row[0] + ", " + row[1] + ", " + row[2] + ")", x.image(0, 0), 1);
        }
    }

    private static void turn() {
        CutBodies x = new CutBodies();
        x.cube(1);
        x.plane(0, 0, 1, 0);
        x.axis(0, 0, 1);
        due("11: no axis", x.turn(1, 0, 1), -1);
        due("11: axis -1", x.turn(-1, 0, 1), -1);
        due("11: no plane", x.turn(0, 1, 1), -1);
        due("11: plane -1", x.turn(0, -1, 1), -1);
        due("11: times 0", x.turn(0, 0, 0), -1);
        due("11: times -1", x.turn(0, 0, -1), -1);
        due("11: times 13", x.turn(0, 0, 13), -1);
        due("11: nothing done", x.home(), 27);
        due("11: done", x.turn(0, 0, 1), 0);
        due("11: (1, 0, 1) has come to (0, 1, 1)", x.at(17), 23);
        due("11: (0, 1, 1) has come to (-1, 0, 1)", x.at(5), 17);
        due("11: the middle stays, turned", x.at(14), 14);
        due("11: the middle's way", x.way(14), 9);
        due("11: on the plane nothing goes", x.at(16), 16);
        due("11: below the plane nothing goes", x.at(15), 15);
        due("11: below the plane nothing turns", x.way(12), 0);
        CutBodies y = new CutBodies();
        y.cube(1);
        y.plane(0, 0, 1, 1);
        y.axis(1, 1, 0);
        due("11: nothing above", y.turn(0, 0, 5), 0);
        due("11: all home", y.home(), 27);
    }

    private static void turnBlocked() {
        CutBodies x = new CutBodies();
        x.cube(1);
        x.plane(0, 0, 1, 0);
        x.axis(1, 0, 0);
        x.axis(0, 0, 1);
        due("11: blocked by what is not above, (-1, -1, 1) goes below", x.turn(0, 0, 1), 1 + 2);
        due("11: blocked as often as one likes", x.turn(0, 0, 4), 1 + 2);
        due("11: times not so, though blocked", x.turn(0, 0, 13), -1);
        due("11: nothing done", x.home(), 27);
        x.point(9, 8, 1);
        due("11: blocked by what has no place", x.turn(1, 0, 1), 1 + 27);
        due("11: none of it done", x.home(), 28);
        CutBodies y = new CutBodies();
        y.point(0, 0, 0);
        y.point(1, 0, 1);
        y.point(0, 1, 1);
        y.plane(0, 0, 1, -1);
        y.axis(0, 0, 1);
        due("11: the least that is blocked", y.turn(0, 0, 1), 1 + 2);
        y.plane(0, 0, 1, 1);
        due("11: on the plane is not above", y.turn(0, 1, 1), 0);
        CutBodies z = new CutBodies();
        z.point(1, 0, 0);
        z.plane(1, 0, 0, 0);
        z.axis(0, 0, 1);
        due("11: blocked by point 0", z.turn(0, 0, 1), 1);
        z.point(0, 1, 0);
        due("11: a point there, but on the plane", z.turn(0, 0, 1), 1);
    }

    private static void turnTimes() {
        for (int times = 1; times <= 12; times++) {
            CutBodies x = new CutBodies();
            CutBodies y = new CutBodies();
            x.cube(1);
            y.cube(1);
            x.plane(1, 1, 1, -1);
            y.plane(1, 1, 1, -1);
            x.axis(1, 1, 1);
            y.axis(1, 1, 1);
            due("11: times " + times, x.turn(0, 0, times), 0);
            for (int i = 0; i < times; i++) y.turn(0, 0, 1);
            for (int p = 0; p < 27; p++) {
                due("11: at(" + p + ") behind " + times, x.at(p), y.at(p));
                due("11: way(" + p + ") behind " + times, x.way(p), y.way(p));
            }
            due("11: home behind " + times, x.home() == 27, times % 3 == 0);
        }
    }

    private static void atAndWay() {
        CutBodies x = turnedCross();
        due("12: the middle", x.at(0), 0);
        due("12: z has come to x", x.at(1), 4);
        due("12: x has come to -z", x.at(2), 1);
        due("12: -z has come to -x", x.at(3), 2);
        due("12: -x has come to z", x.at(4), 3);
        due("13: the middle, x to -z", x.way(0), 22);
        due("13: another", x.way(3), 22);
        due("12: none such", x.at(5), -1);
        due("12: -1", x.at(-1), -1);
        due("13: none such", x.way(5), -1);
        due("13: -1", x.way(-1), -1);
        x.axis(1, 0, 0);
        x.point(0, 1, 0);
        x.point(0, -1, 0);
        x.plane(0, 1, 0, -9);
        due("13: about y", x.turn(0, 1, 1), 0);
        due("13: then about x", x.turn(1, 1, 1), 0);
        due("13: x to -z to y, y to y to z", x.way(0), 4 * 2 + 2);
        due("12: what was at z is at x", x.at(1), 4);
        due("12: what was at x is at y", x.at(5), 1);
    }

    /** One point in the middle, turned step by step: the way tells where x and y have come. */
    private static void ways() {
        CutBodies x = new CutBodies();
        x.cube(0);
        x.plane(1, 0, 0, -1);
        x.axis(1, 0, 0);
        x.axis(0, 1, 0);
        x.axis(0, 0, 1);
        due("13: at first", x.way(0), 0);
        x.turn(0, 0, 1);
        due("13: y to z", x.way(0), 2);
        x.turn(2, 0, 1);
        due("13: x to y, y stays at z", x.way(0), 4 * 2 + 2);
        x.turn(0, 0, 1);
        due("13: x to z, y to -y", x.way(0), 4 * 4 + 3);
        x.turn(1, 0, 2);
        due("13: x to -z, y to -y", x.way(0), 4 * 5 + 3);
        x.turn(2, 0, 1);
        due("13: x to -z, y to x", x.way(0), 4 * 5 + 0);
        x.turn(1, 0, 1);
        due("13: x to -x, y to -z", x.way(0), 4 * 1 + 3);
        x.turn(2, 0, 3);
        due("13: x to y, y to -z", x.way(0), 4 * 2 + 3);
        x.turn(0, 0, 2);
        due("13: x to -y, y to z", x.way(0), 4 * 3 + 2);
    }

    private static void home() {
        CutBodies x = new CutBodies();
        x.cube(1);
        x.plane(1, 0, 0, 0);
        x.axis(1, 0, 0);
        due("14: all at first", x.home(), 27);
        x.turn(0, 0, 1);
        due("14: its own but turned is not home", x.at(22), 22);
        due("14: a side turned", x.home(), 18);
        x.turn(0, 0, 1);
        due("14: twice", x.home(), 18);
        x.turn(0, 0, 2);
        due("14: all round", x.home(), 27);
        CutBodies y = new CutBodies();
        y.point(1, 0, 0);
        y.point(-1, 0, 0);
        y.plane(0, 1, 0, -1);
        y.axis(0, 1, 0);
        y.point(0, 0, 1);
        y.point(0, 0, -1);
        y.turn(0, 0, 2);
        due("14: unturned by half a turn, none", y.home(), 0);
    }

    private static void maps() {
        CutBodies x = new CutBodies();
        x.axis(0, 0, 1);
        x.axis(1, 1, 1);
        due("15: nothing there", x.maps(0), true);
        x.point(1, 0, 0);
        due("15: a point that has no place", x.maps(0), false);
        x.point(0, 1, 0);
        due("15: another", x.maps(0), false);
        x.point(-1, 0, 0);
        x.point(0, -1, 0);
        due("15: four about z", x.maps(0), true);
        due("15: not about (1, 1, 1)", x.maps(1), false);
        x.point(0, 0, 1);
        due("15: on the axis", x.maps(0), true);
        due("15: five are not enough", x.maps(1), false);
        x.point(0, 0, -1);
        due("15: six about (1, 1, 1)", x.maps(1), true);
        due("15: none such", x.maps(2), false);
        due("15: -1", x.maps(-1), false);
    }

    private static void mapsPlanes() {
        CutBodies x = new CutBodies();
        x.axis(0, 0, 1);
        x.axis(1, 1, 0);
        x.plane(0, 0, 1, 7);
        due("15: a plane across the axis", x.maps(0), true);
        due("15: not on the other side", x.maps(1), false);
        x.plane(0, 0, -3, 21);
        due("15: three times, on the other side", x.maps(1), true);
        x.plane(2, 4, 0, 6);
        due("15: one has no place", x.maps(0), false);
        x.plane(-2, 1, 0, 3);
        x.plane(1, 2, 0, -3);
        due("15: three of four", x.maps(0), false);
        x.plane(6, -3, 0, 9);
        due("15: four, in other numbers", x.maps(0), true);
        CutBodies y = new CutBodies();
        y.axis(1, 0, 0);
        y.plane(0, 1, 0, 0);
        y.plane(0, 0, 5, 0);
        due("15: either sign is the same plane", y.maps(0), true);
        y.plane(0, 0, 1, 1);
        due("15: with d it is not", y.maps(0), false);
        CutBodies z = new CutBodies();
        z.axis(1, 1, 0);
        z.plane(4, 2, 0, 6);
        z.plane(1, 2, 0, 4);
        due("15: another d is another plane", z.maps(0), false);
        z.plane(3, 6, 0, 9);
        due("15: one of two", z.maps(0), false);
        z.plane(-6, -3, 0, -12);
        due("15: two of two", z.maps(0), true);
    }

    private static void cycle() {
        CutBodies x = new CutBodies();
        x.cube(1);
        x.plane(1, 0, 0, 0);
        x.plane(1, 1, 1, -9);
        x.axis(1, 0, 0);
        x.axis(1, 1, 1);
        x.axis(0, 1, 1);
        due("16: a quarter", x.cycle(0, 0, 18), 4);
        due("16: on the axis", x.cycle(0, 0, 22), 1);
        due("16: not above", x.cycle(0, 0, 9), 1);
        due("16: below", x.cycle(0, 0, 0), 1);
        due("16: a third", x.cycle(1, 1, 1), 3);
        due("16: a third's axis", x.cycle(1, 1, 26), 1);
        due("16: a half", x.cycle(2, 1, 1), 2);
        due("16: a half's axis", x.cycle(2, 1, 17), 1);
        due("16: blocked", x.cycle(1, 0, 18), 0);
        due("16: blocked, for one that would stay", x.cycle(1, 0, 0), 0);
        due("16: no axis", x.cycle(3, 0, 0), 0);
        due("16: axis -1", x.cycle(-1, 0, 0), 0);
        due("16: no plane", x.cycle(0, 2, 0), 0);
        due("16: plane -1", x.cycle(0, -1, 0), 0);
        due("16: no point", x.cycle(0, 0, 27), 0);
        due("16: point -1", x.cycle(0, 0, -1), 0);
        due("16: nothing turned", x.home(), 27);
    }

    private static void rounds() {
        CutBodies x = new CutBodies();
        x.axis(1, 0, 0);
        due("17: no plane", x.rounds(1), 0);
        x.plane(1, 0, 0, 0);
        due("17: no points", x.rounds(1), 1);
        x.cube(0);
        due("17: none above", x.rounds(1), 1);
        x.point(1, 0, 0);
        due("17: one that turns on its place", x.rounds(1), 4);
        due("17: no second", x.rounds(2), 0);
        x.plane(0, 1, 0, 0);
        due("17: no second axis", x.rounds(2), 0);
        x.axis(0, 1, 0);
        due("17: a second", x.rounds(2), 4);
        due("17: n 0", x.rounds(0), 0);
        due("17: n -1", x.rounds(-1), 0);
        x.axis(0, 0, 1);
        x.plane(1, 0, 0, 0);
        due("17: the third is blocked", x.rounds(3), 0);
        due("17: two of them are not", x.rounds(2), 4);
        due("17: all as it was", x.home(), 2);
        CutBodies y = new CutBodies();
        y.cube(1);
        for (int i = 0; i < 13; i++) {
            y.axis(1, 0, 0);
            y.plane(1, 0, 0, 0);
            due("17: quarters " + (i + 1), y.rounds(i + 1), i % 4 == 3 ? 1 : i % 4 == 1 ? 2 : 4);
        }
        due("17: 14", y.rounds(14), 0);
        CutBodies z = new CutBodies();
        z.cube(1);
        z.axis(1, 0, 0);
        z.plane(1, 0, 0, 0);
        z.plane(0, 1, 0, 0);
        due("17: axes are fewer", z.rounds(2), 0);
    }

    private static void roundsFromWhatIsNow() {
        CutBodies x = new CutBodies();
        x.cube(1);
        x.axis(1, 0, 0);
        x.plane(1, 0, 0, 0);
        x.axis(0, 1, 0);
        x.plane(0, 1, 0, 0);
        due("17: two sides", x.rounds(2), 420);
        x.turn(1, 1, 1);
        x.turn(0, 0, 1);
        int[] at = new int[27];
        int[] way = new int[27];
        for (int p = 0; p < 27; p++) {
            at[p] = x.at(p);
            way[p] = x.way(p);
        }
        due("17: from what is now", x.rounds(2), 420);
        for (int p = 0; p < 27; p++) {
            due("17: at(" + p + ") is as it was", x.at(p), at[p]);
            due("17: way(" + p + ") is as it was", x.way(p), way[p]);
        }
        due("17: blocked or none such leaves all too", x.rounds(3), 0);
        due("17: home", x.at(26), at[26]);
    }

    private static void roundsFar() {
        CutBodies x = new CutBodies();
        x.cube(1);
        x.axis(0, 0, 1);
        x.plane(0, 0, 1, -1);
        x.axis(1, 0, 0);
        x.plane(1, 0, 0, 0);
        x.axis(0, 0, 1);
        x.plane(0, 0, -1, 0);
        due("17: not back behind 2,000", x.rounds(3), -1);
        due("17: all is as it was", x.home(), 27);
        CutBodies y = farBody();
        due("17: back a little before 2,000", y.rounds(5), 1980);
        due("17: all is as it was there too", y.home(), 41);
    }

    private static CutBodies farBody() {
        CutBodies x = new CutBodies();
        x.cube(1);
        for (int s = -2; s <= 2; s += 4) {
            x.point(s, 0, 0);
            x.point(0, s, 0);
            x.point(0, 0, s);
            for (int t = -2; t <= 2; t += 4) {
                x.point(s, t, -2);
                x.point(s, t, 2);
            }
        }
        x.axis(0, 0, 1);
        x.plane(0, 0, 1, 0);
        x.axis(1, 0, 0);
        x.plane(-1, 0, 0, -1);
        x.axis(0, 0, -1);
        x.plane(0, 0, 1, 1);
        x.axis(0, 0, 1);
        x.plane(0, 0, 1, 0);
        x.axis(0, 1, 0);
        x.plane(0, 1, 0, -1);
        return x;
    }

    private static void keep() {
        CutBodies x = new CutBodies();
        for (int i = 0; i < 10; i++) due("18: keep", x.keep(), i);
        due("18: the 11th", x.keep(), -1);
        due("18: the 10th is there", x.back(9), true);
        due("18: the 11th is not", x.back(10), false);
        x.cube(1);
        due("18: points came, ten are kept all the same", x.keep(), -1);
    }

    private static void back() {
        CutBodies x = turnedCross();
        due("19: keep", x.keep(), 0);
        x.turn(0, 0, 1);
        due("19: keep", x.keep(), 1);
        x.turn(0, 0, 2);
        due("19: home", x.home(), 5);
        due("19: none such", x.back(2), false);
        due("19: -1", x.back(-1), false);
        due("19: nothing done", x.home(), 5);
        due("19: back", x.back(0), true);
        due("19: at(1)", x.at(1), 4);
        due("19: way(1)", x.way(1), 22);
        x.turn(0, 0, 3);
        due("19: home again", x.home(), 5);
        due("19: it stays kept", x.back(0), true);
        due("19: at(1) again", x.at(1), 4);
        due("19: the other", x.back(1), true);
        due("19: at(1) of the other", x.at(1), 3);
        due("19: way(1) of the other", x.way(1), 4);
        x.plane(1, 0, 0, 0);
        x.axis(1, 0, 0);
        due("19: planes and axes may come", x.back(0), true);
        due("19: no point comes", x.cube(0), 0);
        due("19: behind it", x.home(), 5);
        due("19: none came", x.back(0), true);
        due("19: as kept", x.home(), 0);
        due("19: a point comes", x.point(7, 7, 7), 5);
        due("19: points came", x.back(0), false);
        due("19: nothing done then", x.home(), 6);
        due("19: kept later", x.keep(), 2);
        due("19: that one", x.back(2), true);
    }

    private static void farNumbers() {
        CutBodies x = turnedCross();
        x.keep();
        for (int far : FAR) {
            due("2: far", x.point(far, 0, 0) + x.point(0, far, 0) + x.point(0, 0, far), -3);
            due("3: far", x.cube(far), -1);
            due("4: far", x.plane(far, 0, 0, 0) + x.plane(1, far, 0, 0) + x.plane(1, 0, far, 0) + x.plane(1, 0, 0, far), -4);
            due("5: far", x.axis(far, 0, 0) + x.axis(0, far, 0) + x.axis(0, 0, far), -3);
            due("6: far", x.order(far), 0);
            due("7: far", x.side(far, 0) + x.side(0, far), -2);
            due("9: far", x.piece(far), -1);
            due("10: far", x.image(far, 0) + x.image(0, far), -2);
            due("11: far", x.turn(far, 0, 1) + x.turn(0, far, 1) + x.turn(0, 0, far), -3);
            due("12: far", x.at(far), -1);
            due("13: far", x.way(far), -1);
            due("15: far", x.maps(far), false);
            due("16: far", x.cycle(far, 0, 0) + x.cycle(0, far, 0) + x.cycle(0, 0, far), 0);
            due("17: far", x.rounds(far), 0);
            due("19: far", x.back(far), false);
        }
        due("nothing done by any of these", x.at(1), 4);
    }
}
