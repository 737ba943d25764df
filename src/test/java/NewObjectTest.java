/** Promise 1: a new object. */
public final class NewObjectTest {
    public static void main(String[] args) {
        Checks checks = new Checks();
        countsAreZero(checks);
        noSurfaceIsSet(checks);
        noCellIsDefined(checks);
        sourceIsTheOrigin(checks);
        objectsAreApart(checks);
        checks.end();
    }

    /** "all counts are 0" */
    private static void countsAreZero(Checks checks) {
        CellTransport bench = new CellTransport();
        checks.allCountsAreZero(bench);
        checks.due("count(5)", bench.count(5), 0);
        checks.due("count(6)", bench.count(6), 0);
        checks.due("state()", bench.state(), 1);
    }

    /** "Nothing set" */
    private static void noSurfaceIsSet(Checks checks) {
        CellTransport bench = new CellTransport();
        for (int number = 0; number < 8; number++) {
            bench.token(number);
            checks.due("cell of an unset surface", bench.cell(0, 0, 0, 0), number == 0 ? 0 : 1);
            checks.due("an unset surface holds none", bench.where(0, 0), Checks.OUTSIDE);
        }
        for (int number = 0; number < 8; number++) {
            checks.due("first surface " + number, bench.surface(number, 0, 0, 0, 0), 0);
        }
    }

    /** "or defined" */
    private static void noCellIsDefined(Checks checks) {
        CellTransport bench = new CellTransport();
        for (int[] point : new int[][] {{0, 0}, {1000, 1000}, {-1000, -1000}}) {
            checks.due("where without cells", bench.where(point[0], point[1]), Checks.OUTSIDE);
        }
        checks.due("cell of the empty buffer", bench.cell(0, 0, 0, 0), Checks.REFUSED);
        for (int number = 0; number < 6; number++) {
            checks.due("undefine of a new object", bench.undefine(number), 0);
        }
        checks.due("run of a new object", bench.run(2), 2);
        checks.counts(bench, 2, 2, 0, 0, 2);
    }

    /** "the source is (0, 0)" */
    private static void sourceIsTheOrigin(Checks checks) {
        for (int direction = 0; direction < 8; direction++) {
            CellTransport bench = new CellTransport();
            bench.surface(0, 1, Checks.STEP_X[direction], Checks.STEP_Y[direction], 0);
            bench.token(0);
            bench.cell(0, 1, 0, 0);
            bench.seed(Checks.stateThatDraws(Checks.direction(direction)));
            bench.run(1);
            checks.due("tracks one step from the source", bench.tally(0, 0), 1);
        }
    }

    private static void objectsAreApart(Checks checks) {
        CellTransport used = Checks.wholePlane(1000, 0, 500);
        used.source(30, 30);
        used.run(2);
        used.token(3);
        countsAreZero(checks);
        noSurfaceIsSet(checks);
        noCellIsDefined(checks);
        sourceIsTheOrigin(checks);
    }
}
