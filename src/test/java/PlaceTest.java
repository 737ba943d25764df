/** Promises 11 and 12: where and reach. */
public final class PlaceTest {
    public static void main(String[] args) {
        Checks checks = new Checks();
        whereHasEdges(checks);
        reachHasEdges(checks);
        reachCountsStepsInTheCell(checks);
        reachStopsAtTheFirstOther(checks);
        reachEndsAt200(checks);
        reachGoesBeyondTheEdge(checks);
        checks.end();
    }

    private static final int[][] FAR = {{1001, 0}, {-1001, 0}, {0, 1001}, {0, -1001},
        {Integer.MAX_VALUE, 0}, {Integer.MIN_VALUE, 0}, {0, Integer.MAX_VALUE}, {0, Integer.MIN_VALUE}};

    private static void whereHasEdges(Checks checks) {
        CellTransport bench = Checks.wholePlane(0, 0, 0);
        for (int x : new int[] {-1000, 1000}) {
            for (int y : new int[] {-1000, 1000}) {
                checks.due("where at a corner", bench.where(x, y), 0);
            }
        }
        for (int[] point : FAR) {
            checks.due("where(" + point[0] + ", " + point[1] + ")", bench.where(point[0], point[1]), Checks.REFUSED);
        }
        bench.undefine(0);
        checks.due("where outside", bench.where(-1000, 1000), Checks.OUTSIDE);
        checks.due("where outside and far", bench.where(-1001, 1000), Checks.REFUSED);
    }

    private static void reachHasEdges(Checks checks) {
        CellTransport bench = Checks.wholePlane(0, 0, 0);
        for (int[] point : FAR) {
            checks.due("reach from afar", bench.reach(point[0], point[1], 0), Checks.REFUSED);
        }
        for (int direction : new int[] {-1, 8, Integer.MAX_VALUE, Integer.MIN_VALUE}) {
            checks.due("reach(0, 0, " + direction + ")", bench.reach(0, 0, direction), Checks.REFUSED);
        }
        for (int direction = 0; direction < 8; direction++) {
            checks.due("reach at a corner", bench.reach(-1000, 1000, direction), 200);
            checks.due("reach at a corner", bench.reach(1000, -1000, direction), 200);
        }
    }

    /** A box from (-1, -2) to (3, 4), so that each direction has its own end. */
    private static CellTransport box() {
        CellTransport bench = new CellTransport();
        bench.surface(0, 0, -1, 0, 1);
        bench.surface(1, 0, 0, -1, 2);
        bench.surface(2, 0, 1, 0, 3);
        bench.surface(3, 0, 0, 1, 4);
        Checks.tokens(bench, 0, 1, 2, 3, 8, 8, 8);
        bench.cell(2, 0, 0, 0);
        return bench;
    }

    private static boolean isInBox(int x, int y) {
        return -1 <= x && x <= 3 && -2 <= y && y <= 4;
    }

    private static void reachCountsStepsInTheCell(Checks checks) {
        CellTransport bench = box();
        int[] due = {3, 3, 4, 1, 1, 1, 2, 2};
        for (int direction = 0; direction < 8; direction++) {
            checks.due("reach(0, 0, " + direction + ")", bench.reach(0, 0, direction), due[direction]);
        }
        for (int x = -8; x <= 8; x++) {
            for (int y = -8; y <= 8; y++) {
                for (int direction = 0; direction < 8; direction++) {
                    checks.due("reach(" + x + ", " + y + ", " + direction + ")", bench.reach(x, y, direction),
                        walk(x, y, direction));
                }
            }
        }
    }

    private static int walk(int x, int y, int direction) {
        int steps = 0;
        boolean home = isInBox(x, y);
        while (steps < 200 && isInBox(x + Checks.STEP_X[direction], y + Checks.STEP_Y[direction]) == home) {
            x += Checks.STEP_X[direction];
            y += Checks.STEP_Y[direction];
            steps++;
        }
        return steps;
    }

    private static void reachStopsAtTheFirstOther(Checks checks) {
        CellTransport bench = Checks.wholePlane(0, 0, 0);
        bench.surface(1, 1, 10, 0, 0);
        Checks.tokens(bench, 0, 1, 10, 8);
        bench.cell(0, 0, 0, 0);
        checks.due("reach up to a gap", bench.reach(0, 0, 0), 9);
        checks.due("reach of the gap", bench.reach(10, 0, 0), 0);
        checks.due("reach from behind the gap", bench.reach(11, 0, 0), 200);
        bench.token(1);
        bench.cell(1, 0, 0, 0);
        checks.due("reach up to another cell", bench.reach(0, 0, 0), 9);
    }

    private static void reachEndsAt200(Checks checks) {
        CellTransport bench = new CellTransport();
        bench.surface(0, 0, 1, 0, 200);
        bench.token(0);
        bench.cell(0, 0, 0, 0);
        checks.due("reach of 199", bench.reach(1, 0, 0), 199);
        checks.due("reach of 200", bench.reach(0, 0, 0), 200);
        checks.due("reach of more", bench.reach(-1, 0, 0), 200);
        checks.due("reach outside of 199", bench.reach(400, 0, 4), 199);
        checks.due("reach outside of 200", bench.reach(401, 0, 4), 200);
        checks.due("reach outside of more", bench.reach(402, 0, 4), 200);
    }

    private static void reachGoesBeyondTheEdge(Checks checks) {
        CellTransport bench = new CellTransport();
        bench.surface(0, 0, 1, 0, 1100);
        bench.token(0);
        bench.cell(0, 0, 0, 0);
        checks.due("reach beyond 1000", bench.reach(1000, 0, 0), 100);
        checks.due("reach beyond 1000", bench.reach(1000, 1000, 1), 100);
    }
}
