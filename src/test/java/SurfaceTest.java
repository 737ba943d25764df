/** Promise 2: surface, and the points that a surface holds. */
public final class SurfaceTest {
    public static void main(String[] args) {
        Checks checks = new Checks();
        answersWhetherItWasSet(checks);
        edgesAreTaken(checks);
        beyondTheEdgesIsRefused(checks);
        refusedChangesNothing(checks);
        planeHoldsItsPoints(checks);
        discHoldsItsPoints(checks);
        cellsFollowTheirSurfaces(checks);
        checks.end();
    }

    private static void answersWhetherItWasSet(Checks checks) {
        CellTransport bench = new CellTransport();
        for (int number = 0; number < 8; number++) {
            checks.due("surface first", bench.surface(number, number % 2, 1, 1, 1), 0);
            checks.due("surface again", bench.surface(number, 1 - number % 2, 1, 1, 1), 1);
        }
    }

    private static void edgesAreTaken(Checks checks) {
        CellTransport bench = new CellTransport();
        bench.surface(0, 0, 0, 0, 0);
        int[][] taken = {
            {0, -9, -9, -9999}, {0, 9, 9, 9999}, {0, -9, 9, 301}, {0, 9, -9, -1},
            {1, -300, -300, 0}, {1, 300, 300, 300}, {1, -300, 300, 10}, {1, 10, 10, 300}};
        for (int[] row : taken) {
            checks.due("surface at an edge", bench.surface(0, row[0], row[1], row[2], row[3]), 1);
        }
    }

    private static final int[][] WRONG = {
        {-1, 0, 0, 0, 0}, {8, 0, 0, 0, 0}, {Integer.MAX_VALUE, 1, 0, 0, 0}, {Integer.MIN_VALUE, 1, 0, 0, 0},
        {0, -1, 0, 0, 0}, {0, 2, 0, 0, 0}, {0, Integer.MIN_VALUE, 0, 0, 0},
        {0, 0, 10, 0, 0}, {0, 0, -10, 0, 0}, {0, 0, 0, 10, 0}, {0, 0, 0, -10, 0},
        {0, 0, 0, 0, 10000}, {0, 0, 0, 0, -10000}, {0, 0, Integer.MIN_VALUE, 0, 0}, {0, 0, 0, 0, Integer.MIN_VALUE},
        {0, 1, 301, 0, 0}, {0, 1, -301, 0, 0}, {0, 1, 0, 301, 0}, {0, 1, 0, -301, 0},
        {0, 1, 0, 0, 301}, {0, 1, 0, 0, -1}, {0, 1, 0, 0, Integer.MAX_VALUE}};

    private static void beyondTheEdgesIsRefused(Checks checks) {
        CellTransport bench = new CellTransport();
        for (int[] row : WRONG) {
            checks.due("surface" + java.util.Arrays.toString(row),
                bench.surface(row[0], row[1], row[2], row[3], row[4]), Checks.REFUSED);
        }
        checks.due("surface 0 was never set", bench.surface(0, 0, 0, 0, 0), 0);
    }

    private static void refusedChangesNothing(Checks checks) {
        CellTransport bench = new CellTransport();
        bench.surface(0, 1, 5, 5, 2);
        bench.token(0);
        bench.cell(0, 0, 0, 0);
        for (int[] row : WRONG) {
            bench.surface(row[0], row[1], row[2], row[3], row[4]);
            checks.due("where(7, 5)", bench.where(7, 5), 0);
            checks.due("where(8, 5)", bench.where(8, 5), Checks.OUTSIDE);
        }
    }

    private static void planeHoldsItsPoints(Checks checks) {
        int[][] planes = {{1, 0, 0}, {0, 1, -3}, {-2, 3, 4}, {9, -9, 17}, {-9, -9, -9999}, {9, 9, 9999},
            {0, 0, 0}, {0, 0, -1}, {0, 0, 9999}};
        for (int[] plane : planes) {
            CellTransport bench = new CellTransport();
            bench.surface(7, 0, plane[0], plane[1], plane[2]);
            bench.token(7);
            bench.cell(5, 0, 0, 0);
            for (int x = -1000; x <= 1000; x += x > -8 && x < 8 ? 1 : 31) {
                for (int y = -1000; y <= 1000; y += y > -8 && y < 8 ? 1 : 37) {
                    boolean held = plane[0] * x + plane[1] * y <= plane[2];
                    checks.due("where in a plane", bench.where(x, y), held ? 5 : Checks.OUTSIDE);
                }
            }
        }
    }

    private static void discHoldsItsPoints(Checks checks) {
        CellTransport bench = new CellTransport();
        bench.surface(0, 1, -300, 300, 300);
        bench.surface(1, 1, 7, -4, 0);
        bench.surface(2, 1, 100, 50, 5);
        for (int number = 0; number < 3; number++) {
            bench.token(number);
            bench.cell(number, 0, 0, 0);
        }
        int[][] due = {
            {0, 300, 0}, {-600, 300, 0}, {-300, 600, 0}, {-300, 0, 0}, {1, 300, 6}, {-601, 300, 6},
            {-300, 601, 6}, {-300, -1, 6}, {-120, 540, 0}, {-119, 540, 6}, {1000, 1000, 6}, {-1000, -1000, 6},
            {7, -4, 1}, {8, -4, 6}, {7, -5, 6}, {-7, 4, 6},
            {103, 54, 2}, {104, 53, 2}, {97, 46, 2}, {96, 47, 2}, {104, 54, 6}, {95, 50, 2}, {94, 50, 6}};
        for (int[] row : due) {
            checks.due("where(" + row[0] + ", " + row[1] + ")", bench.where(row[0], row[1]), row[2]);
        }
    }

    private static void cellsFollowTheirSurfaces(Checks checks) {
        CellTransport bench = new CellTransport();
        bench.token(4);
        bench.cell(2, 0, 0, 0);
        checks.due("where before surface 4 is set", bench.where(3, 3), Checks.OUTSIDE);
        bench.surface(4, 1, 3, 3, 0);
        checks.due("where in disc 4", bench.where(3, 3), 2);
        bench.surface(4, 0, -1, 0, -4);
        checks.due("where beside plane 4", bench.where(3, 3), Checks.OUTSIDE);
        checks.due("where in plane 4", bench.where(4, 3), 2);
    }
}
