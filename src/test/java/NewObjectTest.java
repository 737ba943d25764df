/** Promise 1: nothing is set or defined, the source is (0, 0), all counts are 0. */
public final class NewObjectTest {
    public static void main(String[] args) {
        Checks checks = new Checks();
        countsAreZero(checks);
        nothingIsSet(checks);
        sourceIsTheOrigin(checks);
        objectsAreApart(checks);
        checks.end();
    }

    private static void countsAreZero(Checks checks) {
        CellTransport bench = new CellTransport();
        for (int what = 0; what <= 6; what++) {
            checks.due("count(" + what + ")", bench.count(what), 0);
        }
        for (int cell = 0; cell < 6; cell++) {
            for (int what = 0; what < 4; what++) {
                checks.due("tally(" + cell + ", " + what + ")", bench.tally(cell, what), 0);
            }
            for (int to = 0; to < 6; to++) {
                checks.due("crossed(" + cell + ", " + to + ")", bench.crossed(cell, to), 0);
            }
        }
        checks.due("state()", bench.state(), 1);
    }

    private static void nothingIsSet(Checks checks) {
        CellTransport bench = new CellTransport();
        checks.due("where without cells", bench.where(0, 0), Checks.OUTSIDE);
        for (int number = 0; number < 6; number++) {
            checks.due("undefine of a new object", bench.undefine(number), 0);
        }
        for (int number = 0; number < 8; number++) {
            bench.token(number);
            checks.due("cell of an unset surface", bench.cell(0, 0, 0, 0), number == 0 ? 0 : 1);
            checks.due("an unset surface holds none", bench.where(0, 0), Checks.OUTSIDE);
            bench.token(number);
            bench.token(10);
            bench.cell(0, 0, 0, 0);
            checks.due("not an unset surface holds all", bench.where(0, 0), 0);
        }
        for (int number = 0; number < 8; number++) {
            checks.due("first surface " + number, bench.surface(number, 0, 0, 0, 0), 0);
        }
    }

    private static void sourceIsTheOrigin(Checks checks) {
        for (int direction = 0; direction < 8; direction++) {
            CellTransport bench = new CellTransport();
            bench.surface(0, 1, Checks.STEP_X[direction], Checks.STEP_Y[direction], 0);
            bench.token(0);
            bench.cell(0, 1, 0, 0);
            bench.seed(Checks.stateThatDraws(Checks.direction(direction)));
            bench.run(1);
            checks.due("tracks one step from the source", bench.tally(0, 0), 1);
        }
    }

    private static void objectsAreApart(Checks checks) {
        CellTransport used = Checks.wholePlane(1000, 0, 500);
        used.run(2);
        used.token(3);
        countsAreZero(checks);
    }
}
