/** Promises 11 and 12: where and reach. Of the terms: directions. */
public final class PlaceTest {
    public static void main(String[] args) {
        Checks checks = new Checks();
        whereEndsAtItsLastPoints(checks);
        whereRefusesWhatIsFar(checks);
        whereIsOutsideWithoutACell(checks);
        reachEndsAtItsLastPoints(checks);
        reachHasEightDirections(checks);
        reachCountsStepsInTheCell(checks);
        reachMayBeNothing(checks);
        reachStopsAtTheFirstOther(checks);
        reachStaysOutside(checks);
        reachEndsAt200(checks);
        reachGoesBeyondTheLastPoints(checks);
        askingChangesNothing(checks);
        checks.end();
    }

    private static final int[][] LAST = {{1000, 0}, {-1000, 0}, {0, 1000}, {0, -1000},
        {1000, 1000}, {-1000, -1000}, {1000, -1000}, {-1000, 1000}};
    private static final int[][] FAR = {{1001, 0}, {-1001, 0}, {0, 1001}, {0, -1001}, {1001, 1001}, {-1001, -1001},
        {Checks.MAX, 0}, {Checks.MIN, 0}, {0, Checks.MAX}, {0, Checks.MIN}};

    private static String point(int[] point) {
        return "(" + point[0] + ", " + point[1] + ")";
    }

    /** "x and y -1000 .. 1000, else REFUSED" */
    private static void whereEndsAtItsLastPoints(Checks checks) {
        CellTransport bench = Checks.wholePlane(0, 0, 0);
        for (int[] point : LAST) {
            checks.due("where" + point(point), bench.where(point[0], point[1]), 0);
        }
        // The last points are told from those before them.
        bench = Checks.halfPlane(999, 0, 0, 0);
        checks.due("where(999, 0)", bench.where(999, 0), 0);
        checks.due("where(1000, 0)", bench.where(1000, 0), Checks.OUTSIDE);
        bench.surface(0, 0, 0, -1, 999);
        checks.due("where(0, -999)", bench.where(0, -999), 0);
        checks.due("where(0, -1000)", bench.where(0, -1000), Checks.OUTSIDE);
    }

    private static void whereRefusesWhatIsFar(Checks checks) {
        CellTransport inside = Checks.wholePlane(0, 0, 0);
        CellTransport outside = new CellTransport();
        for (int[] point : FAR) {
            checks.due("where" + point(point), inside.where(point[0], point[1]), Checks.REFUSED);
            checks.due("where" + point(point), outside.where(point[0], point[1]), Checks.REFUSED);
        }
    }

    /** "The cell that the point is in, or OUTSIDE" */
    private static void whereIsOutsideWithoutACell(Checks checks) {
        CellTransport bench = new CellTransport();
        for (int[] point : LAST) {
            checks.due("where" + point(point), bench.where(point[0], point[1]), Checks.OUTSIDE);
        }
        for (int cell = 0; cell < 6; cell++) {
            bench.surface(cell, 1, 10 * cell, 0, 4);
            bench.token(cell);
            bench.cell(cell, 0, 0, 0);
        }
        for (int cell = 0; cell < 6; cell++) {
            checks.due("where in cell " + cell, bench.where(10 * cell, 0), cell);
            checks.due("where after cell " + cell, bench.where(10 * cell + 5, 0), Checks.OUTSIDE);
        }
    }

    /** "from the point (-1000 .. 1000 both)" */
    private static void reachEndsAtItsLastPoints(Checks checks) {
        CellTransport bench = Checks.wholePlane(0, 0, 0);
        for (int[] point : LAST) {
            for (int direction = 0; direction < 8; direction++) {
                checks.due("reach from " + point(point), bench.reach(point[0], point[1], direction), 200);
            }
        }
        for (int[] point : FAR) {
            checks.due("reach from " + point(point), bench.reach(point[0], point[1], 0), Checks.REFUSED);
            checks.due("reach from " + point(point), bench.reach(point[0], point[1], 7), Checks.REFUSED);
        }
    }

    /** "in the direction (0 .. 7)"; "the steps (1,0), (1,1), (0,1), (-1,1), (-1,0), (-1,-1), (0,-1), (1,-1)" */
    private static void reachHasEightDirections(Checks checks) {
        CellTransport bench = box();
        checks.due("reach(0, 0, -1)", bench.reach(0, 0, -1), Checks.REFUSED);
        checks.due("reach(0, 0, 0)", bench.reach(0, 0, 0), 3);
        checks.due("reach(0, 0, 7)", bench.reach(0, 0, 7), 2);
        checks.due("reach(0, 0, 8)", bench.reach(0, 0, 8), Checks.REFUSED);
        checks.due("reach in the greatest direction", bench.reach(0, 0, Checks.MAX), Checks.REFUSED);
        checks.due("reach in the least direction", bench.reach(0, 0, Checks.MIN), Checks.REFUSED);
        for (int direction = 0; direction < 8; direction++) {
            bench = new CellTransport();
            // The source's place and the one a step away are in the cell, and no other.
            bench.surface(0, 1, 0, 0, 0);
            bench.surface(1, 1, Checks.STEP_X[direction], Checks.STEP_Y[direction], 0);
            Checks.tokens(bench, 0, 1, 9);
            bench.cell(0, 0, 0, 0);
            for (int asked = 0; asked < 8; asked++) {
                checks.due("reach(0, 0, " + asked + ")", bench.reach(0, 0, asked), asked == direction ? 1 : 0);
            }
        }
    }

    /** A box from (-1, -2) to (3, 4), so that each direction has its own end. */
    private static CellTransport box() {
        CellTransport bench = new CellTransport();
        bench.surface(0, 0, -1, 0, 1);
        bench.surface(1, 0, 0, -1, 2);
        bench.surface(2, 0, 1, 0, 3);
        bench.surface(3, 0, 0, 1, 4);
        Checks.tokens(bench, 0, 1, 2, 3, 8, 8, 8);
        bench.cell(2, 0, 0, 0);
        return bench;
    }

    private static boolean isInBox(int x, int y) {
        return -1 <= x && x <= 3 && -2 <= y && y <= 4;
    }

    private static void reachCountsStepsInTheCell(Checks checks) {
        for (int x = -8; x <= 8; x++) {
            CellTransport bench = box();
            for (int y = -8; y <= 8; y++) {
                for (int direction = 0; direction < 8; direction++) {
                    checks.due("reach(" + x + ", " + y + ", " + direction + ")", bench.reach(x, y, direction),
                        walk(x, y, direction));
                }
            }
        }
    }

    private static int walk(int x, int y, int direction) {
        int steps = 0;
        boolean home = isInBox(x, y);
        while (steps < 200 && isInBox(x + Checks.STEP_X[direction], y + Checks.STEP_Y[direction]) == home) {
            x += Checks.STEP_X[direction];
            y += Checks.STEP_Y[direction];
            steps++;
        }
        return steps;
    }

    private static void reachMayBeNothing(Checks checks) {
        CellTransport bench = new CellTransport();
        bench.surface(0, 1, 5, 5, 0);
        bench.token(0);
        bench.cell(0, 0, 0, 0);
        for (int direction = 0; direction < 8; direction++) {
            checks.due("reach of a point", bench.reach(5, 5, direction), 0);
            checks.due("reach up to a point",
                bench.reach(5 - Checks.STEP_X[direction], 5 - Checks.STEP_Y[direction], direction), 0);
        }
    }

    /** "one after another, to points in the same cell as the point" */
    private static void reachStopsAtTheFirstOther(Checks checks) {
        CellTransport bench = Checks.wholePlane(0, 0, 0);
        bench.surface(1, 1, 10, 0, 0);
        Checks.tokens(bench, 0, 1, 10, 8);
        bench.cell(0, 0, 0, 0);
        checks.due("reach up to a gap", bench.reach(0, 0, 0), 9);
        checks.due("reach of the gap", bench.reach(10, 0, 0), 0);
        checks.due("reach from behind the gap", bench.reach(11, 0, 0), 200);
        bench.token(1);
        bench.cell(1, 0, 0, 0);
        checks.due("reach up to another cell", bench.reach(0, 0, 0), 9);
        checks.due("reach of the other cell", bench.reach(10, 0, 0), 0);
    }

    /** "(or OUTSIDE like it)" */
    private static void reachStaysOutside(Checks checks) {
        CellTransport bench = new CellTransport();
        checks.due("reach without cells", bench.reach(-1000, 1000, 3), 200);
        bench.surface(0, 1, 0, 0, 20);
        bench.token(0);
        bench.cell(5, 0, 0, 0);
        checks.due("reach towards the cell", bench.reach(30, 0, 4), 9);
        checks.due("reach beside the cell", bench.reach(21, 0, 4), 0);
        checks.due("reach away from the cell", bench.reach(21, 0, 0), 200);
    }

    /** "at most 200" */
    private static void reachEndsAt200(Checks checks) {
        CellTransport bench = Checks.halfPlane(200, 0, 0, 0);
        checks.due("reach of 199", bench.reach(1, 0, 0), 199);
        checks.due("reach of 200", bench.reach(0, 0, 0), 200);
        checks.due("reach of 201", bench.reach(-1, 0, 0), 200);
        checks.due("reach of 1200", bench.reach(-1000, 0, 0), 200);
        checks.due("reach outside of 199", bench.reach(400, 0, 4), 199);
        checks.due("reach outside of 200", bench.reach(401, 0, 4), 200);
        checks.due("reach outside of 201", bench.reach(402, 0, 4), 200);
    }

    private static void reachGoesBeyondTheLastPoints(Checks checks) {
        CellTransport bench = Checks.halfPlane(1100, 0, 0, 0);
        checks.due("reach beyond 1000", bench.reach(1000, 0, 0), 100);
        checks.due("reach beyond 1000", bench.reach(1000, 1000, 1), 100);
        bench.surface(0, 0, 0, -1, 1199);
        checks.due("reach beyond -1000", bench.reach(0, -1000, 6), 199);
        bench.surface(0, 0, 0, -1, 1200);
        checks.due("reach beyond -1000", bench.reach(0, -1000, 6), 200);
    }

    private static void askingChangesNothing(Checks checks) {
        CellTransport bench = box();
        bench.token(0);
        for (int round = 0; round < 3; round++) {
            checks.due("where(0, 0)", bench.where(0, 0), 2);
            checks.due("reach(0, 0, 2)", bench.reach(0, 0, 2), 4);
        }
        checks.allCountsAreZero(bench);
        checks.due("state()", bench.state(), 1);
        checks.due("count(5)", bench.count(5), 1);
    }
}
