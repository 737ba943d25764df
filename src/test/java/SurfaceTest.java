import java.util.Arrays;

/** Promise 2: surface. Of the terms: points and surfaces. */
public final class SurfaceTest {
    public static void main(String[] args) {
        Checks checks = new Checks();
        answersWhetherItWasSet(checks);
        firstAndLastNumberAreTaken(checks);
        lastValuesOfAPlaneAreTaken(checks);
        lastValuesOfADiscAreTaken(checks);
        eachKindHasItsOwnRange(checks);
        beyondTheEdgesIsRefused(checks);
        refusedChangesNothing(checks);
        aPlaneHoldsAtMostC(checks);
        aPlaneWithoutSlopeHoldsAllOrNone(checks);
        aDiscHoldsAtMostItsRadius(checks);
        aDiscWithoutRadiusHoldsItsCentre(checks);
        neverSetHoldsNone(checks);
        cellsFollowTheirSurfaces(checks);
        checks.end();
    }

    /** "answers 1 if it had been set before, else 0" */
    private static void answersWhetherItWasSet(Checks checks) {
        CellTransport bench = new CellTransport();
        for (int number = 0; number < 8; number++) {
            checks.due("surface first", bench.surface(number, number % 2, 1, 1, 1), 0);
            checks.due("surface again", bench.surface(number, 1 - number % 2, 1, 1, 1), 1);
            checks.due("surface as it is", bench.surface(number, 1 - number % 2, 1, 1, 1), 1);
        }
    }

    /** "the surface number (0 .. 7)" */
    private static void firstAndLastNumberAreTaken(Checks checks) {
        CellTransport bench = new CellTransport();
        checks.due("surface -1", bench.surface(-1, 1, 1, 1, 1), Checks.REFUSED);
        checks.due("surface 0", bench.surface(0, 1, 1, 1, 1), 0);
        checks.due("surface 7", bench.surface(7, 1, 50, 50, 1), 0);
        checks.due("surface 8", bench.surface(8, 1, 1, 1, 1), Checks.REFUSED);
        bench.token(0);
        bench.cell(0, 0, 0, 0);
        bench.token(7);
        bench.cell(1, 0, 0, 0);
        checks.due("where in surface 0", bench.where(1, 1), 0);
        checks.due("where in surface 7", bench.where(50, 50), 1);
    }

    /** A bench with cell 5 in surface 7 alone. */
    private static CellTransport withSurface(Checks checks, int kind, int a, int b, int c) {
        CellTransport bench = new CellTransport();
        checks.due("surface(7, " + kind + ", " + a + ", " + b + ", " + c + ")", bench.surface(7, kind, a, b, c), 0);
        bench.token(7);
        bench.cell(5, 0, 0, 0);
        return bench;
    }

    /** Each row: a, b, c, then a point that is the last one held and one that is the first not held. */
    private static void heldUpTo(Checks checks, int kind, int[][] rows) {
        for (int[] row : rows) {
            CellTransport bench = withSurface(checks, kind, row[0], row[1], row[2]);
            checks.due("where is held, " + Arrays.toString(row), bench.where(row[3], row[4]), 5);
            checks.due("where is not held, " + Arrays.toString(row), bench.where(row[5], row[6]), Checks.OUTSIDE);
        }
    }

    /** "c -9999 .. 9999 and a, b -9 .. 9 for a plane" */
    private static void lastValuesOfAPlaneAreTaken(Checks checks) {
        heldUpTo(checks, 0, new int[][] {
            {9, 0, 90, 10, 0, 11, 0}, {-9, 0, 90, -10, 0, -11, 0}, {0, 9, 90, 0, 10, 0, 11}, {0, -9, 90, 0, -10, 0, -11},
            {9, 8, 9999, 223, 999, 224, 998}, {9, 8, -9999, -223, -999, -222, -1000},
            {9, 9, 9999, 111, 1000, 112, 1000}, {-9, -9, -9999, 111, 1000, 110, 1000},
            {-9, 9, 9999, -111, 1000, -112, 1000}, {9, -9, -9999, -111, 1000, -110, 1000}});
    }

    /** "a, b -300 .. 300 and c 0 .. 300 for a disc" */
    private static void lastValuesOfADiscAreTaken(Checks checks) {
        heldUpTo(checks, 1, new int[][] {
            {300, 0, 300, 600, 0, 601, 0}, {300, 0, 300, 0, 0, -1, 0}, {-300, 0, 300, -600, 0, -601, 0},
            {0, 300, 300, 0, 600, 0, 601}, {0, -300, 300, 0, -600, 0, -601},
            {300, 300, 300, 480, 540, 481, 540}, {-300, -300, 300, -540, -480, -540, -481},
            {-300, 300, 0, -300, 300, -299, 300}, {300, -300, 0, 300, -300, 300, -299}});
    }

    /** A plane's a and b end where a disc's do not, and a disc's c ends where a plane's does not. */
    private static void eachKindHasItsOwnRange(Checks checks) {
        CellTransport bench = new CellTransport();
        checks.due("a plane with a 10", bench.surface(0, 0, 10, 0, 0), Checks.REFUSED);
        checks.due("a disc with a 10", bench.surface(0, 1, 10, 0, 0), 0);
        checks.due("a plane with b -10", bench.surface(1, 0, 0, -10, 0), Checks.REFUSED);
        checks.due("a disc with b -10", bench.surface(1, 1, 0, -10, 0), 0);
        checks.due("a disc with c 301", bench.surface(2, 1, 0, 0, 301), Checks.REFUSED);
        checks.due("a plane with c 301", bench.surface(2, 0, 0, 0, 301), 0);
        checks.due("a disc with c -1", bench.surface(3, 1, 0, 0, -1), Checks.REFUSED);
        checks.due("a plane with c -1", bench.surface(3, 0, 0, 0, -1), 0);
    }

    private static final int[][] WRONG = {
        {-1, 0, 0, 0, 0}, {8, 0, 0, 0, 0}, {Checks.MAX, 1, 0, 0, 0}, {Checks.MIN, 1, 0, 0, 0},
        {0, -1, 0, 0, 0}, {0, 2, 0, 0, 0}, {0, Checks.MIN, 0, 0, 0}, {0, Checks.MAX, 0, 0, 0},
        {0, 0, 10, 0, 0}, {0, 0, -10, 0, 0}, {0, 0, 0, 10, 0}, {0, 0, 0, -10, 0},
        {0, 0, 0, 0, 10000}, {0, 0, 0, 0, -10000}, {0, 0, Checks.MIN, 0, 0}, {0, 0, 0, 0, Checks.MIN},
        {0, 1, 301, 0, 0}, {0, 1, -301, 0, 0}, {0, 1, 0, 301, 0}, {0, 1, 0, -301, 0},
        {0, 1, 0, 0, 301}, {0, 1, 0, 0, -1}, {0, 1, 0, 0, Checks.MAX}};

    private static void beyondTheEdgesIsRefused(Checks checks) {
        CellTransport bench = new CellTransport();
        for (int[] row : WRONG) {
            checks.due("surface" + Arrays.toString(row),
                bench.surface(row[0], row[1], row[2], row[3], row[4]), Checks.REFUSED);
        }
        checks.due("surface 0 was never set", bench.surface(0, 0, 0, 0, 0), 0);
    }

    private static void refusedChangesNothing(Checks checks) {
        CellTransport bench = new CellTransport();
        bench.surface(0, 1, 5, 5, 2);
        bench.token(0);
        bench.cell(0, 0, 0, 0);
        for (int[] row : WRONG) {
            bench.surface(row[0], row[1], row[2], row[3], row[4]);
            checks.due("where(7, 5)", bench.where(7, 5), 0);
            checks.due("where(8, 5)", bench.where(8, 5), Checks.OUTSIDE);
        }
    }

    /** "those with a * x + b * y at most c" */
    private static void aPlaneHoldsAtMostC(Checks checks) {
        heldUpTo(checks, 0, new int[][] {
            {1, 0, 0, 0, 5, 1, 5}, {0, 1, -3, 5, -3, 5, -2}, {-1, 0, 4, -4, 0, -5, 0}, {0, -1, 4, 0, -4, 0, -5},
            {2, 3, 12, 3, 2, 2, 3}, {1, 1, 1000, 0, 1000, 1, 1000}, {1, 0, 999, 999, -1000, 1000, -1000}});
        int[][] planes = {{1, 0, 0}, {0, 1, -3}, {-2, 3, 4}, {9, -9, 17}, {-9, -9, -9999}, {9, 9, 9999}};
        for (int[] plane : planes) {
            for (int x = -1000; x <= 1000; x += x > -8 && x < 8 ? 1 : 31) {
                aColumnOfThePlane(checks, plane, x);
            }
        }
    }

    /** A bench for each column, for an object has no more than 512 calls. */
    private static void aColumnOfThePlane(Checks checks, int[] plane, int x) {
        CellTransport bench = withSurface(checks, 0, plane[0], plane[1], plane[2]);
        for (int y = -1000; y <= 1000; y += y > -8 && y < 8 ? 1 : 37) {
            boolean held = plane[0] * x + plane[1] * y <= plane[2];
            checks.due("where in a plane", bench.where(x, y), held ? 5 : Checks.OUTSIDE);
        }
    }

    private static void aPlaneWithoutSlopeHoldsAllOrNone(Checks checks) {
        for (int c : new int[] {-9999, -1, 0, 1, 9999}) {
            CellTransport bench = withSurface(checks, 0, 0, 0, c);
            for (int[] point : new int[][] {{0, 0}, {1000, 1000}, {-1000, -1000}, {1000, -1000}, {-1, 0}, {0, 1}}) {
                checks.due("where of 0 at most " + c, bench.where(point[0], point[1]), c >= 0 ? 5 : Checks.OUTSIDE);
            }
        }
    }

    /** "those with (x - a) * (x - a) + (y - b) * (y - b) at most c * c" */
    private static void aDiscHoldsAtMostItsRadius(Checks checks) {
        heldUpTo(checks, 1, new int[][] {
            {100, 50, 5, 105, 50, 106, 50}, {100, 50, 5, 95, 50, 94, 50}, {100, 50, 5, 100, 55, 100, 56},
            {100, 50, 5, 100, 45, 100, 44}, {100, 50, 5, 103, 54, 104, 54}, {100, 50, 5, 96, 47, 96, 46},
            {-7, 4, 1, -6, 4, -6, 5}, {-7, 4, 1, -8, 4, -8, 3},
            {-300, 300, 300, -120, 540, -119, 540}, {-300, 300, 300, -300, 0, -300, -1},
            {-300, 300, 300, -300, 600, 1000, 1000}, {300, 300, 300, 300, 300, -1000, -1000}});
    }

    private static void aDiscWithoutRadiusHoldsItsCentre(Checks checks) {
        CellTransport bench = withSurface(checks, 1, 7, -4, 0);
        for (int x = 5; x <= 9; x++) {
            for (int y = -6; y <= -2; y++) {
                checks.due("where(" + x + ", " + y + ")", bench.where(x, y), x == 7 && y == -4 ? 5 : Checks.OUTSIDE);
            }
        }
    }

    /** "A surface that was never set holds none." */
    private static void neverSetHoldsNone(Checks checks) {
        for (int number = 0; number < 8; number++) {
            CellTransport bench = new CellTransport();
            for (int other = 0; other < 8; other++) {
                if (other != number) {
                    Checks.everywhere(bench, other);
                }
            }
            bench.token(number);
            bench.cell(0, 0, 0, 0);
            for (int[] point : new int[][] {{0, 0}, {1, 0}, {-1000, 1000}, {1000, -1000}}) {
                checks.due("where in a surface never set", bench.where(point[0], point[1]), Checks.OUTSIDE);
            }
            Checks.tokens(bench, number, 10);
            bench.cell(0, 0, 0, 0);
            checks.due("where not in a surface never set", bench.where(0, 0), 0);
        }
    }

    /** "A region holds what its surfaces, as they are at the time, make it hold." */
    private static void cellsFollowTheirSurfaces(Checks checks) {
        CellTransport bench = new CellTransport();
        bench.token(4);
        bench.cell(2, 0, 0, 0);
        checks.due("where before surface 4 is set", bench.where(3, 3), Checks.OUTSIDE);
        bench.surface(4, 1, 3, 3, 0);
        checks.due("where in disc 4", bench.where(3, 3), 2);
        bench.surface(4, 0, -1, 0, -4);
        checks.due("where beside plane 4", bench.where(3, 3), Checks.OUTSIDE);
        checks.due("where in plane 4", bench.where(4, 3), 2);
    }
}
