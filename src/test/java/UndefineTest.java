/** Promise 5: undefine. */
public final class UndefineTest {
    public static void main(String[] args) {
        Checks checks = new Checks();
        answersWhetherItWasDefined(checks);
        firstAndLastNumberAreTaken(checks);
        outOfRangeIsRefused(checks);
        itIsNoLongerDefined(checks);
        countsStay(checks);
        checks.end();
    }

    private static CellTransport sixCells() {
        CellTransport bench = new CellTransport();
        Checks.everywhere(bench, 0);
        for (int number = 0; number < 6; number++) {
            bench.token(0);
            bench.cell(number, 0, 0, 0);
        }
        return bench;
    }

    /** "answers 1 if it was, else 0" */
    private static void answersWhetherItWasDefined(Checks checks) {
        CellTransport bench = new CellTransport();
        for (int number = 0; number < 6; number++) {
            checks.due("undefine of a cell never defined", bench.undefine(number), 0);
        }
        bench = sixCells();
        for (int number = 0; number < 6; number++) {
            checks.due("undefine", bench.undefine(number), 1);
            checks.due("count(6)", bench.count(6), 5 - number);
            checks.due("undefine again", bench.undefine(number), 0);
            checks.due("count(6)", bench.count(6), 5 - number);
        }
    }

    /** "The cell (0 .. 5)" */
    private static void firstAndLastNumberAreTaken(Checks checks) {
        CellTransport bench = sixCells();
        checks.due("undefine(-1)", bench.undefine(-1), Checks.REFUSED);
        checks.due("undefine(0)", bench.undefine(0), 1);
        checks.due("undefine(5)", bench.undefine(5), 1);
        checks.due("undefine(6)", bench.undefine(6), Checks.REFUSED);
    }

    private static void outOfRangeIsRefused(Checks checks) {
        CellTransport bench = sixCells();
        for (int number : new int[] {-1, 6, 7, Checks.MAX, Checks.MIN}) {
            checks.due("undefine(" + number + ")", bench.undefine(number), Checks.REFUSED);
            checks.due("count(6)", bench.count(6), 6);
            checks.due("where", bench.where(0, 0), 0);
        }
    }

    private static void itIsNoLongerDefined(Checks checks) {
        for (int number = 0; number < 6; number++) {
            CellTransport bench = sixCells();
            Checks.tokens(bench, 0, 10, 10);
            bench.undefine(number);
            checks.due("where", bench.where(0, 0), number == 0 ? 1 : 0);
            checks.due("the buffer stays", bench.count(5), 3);
            checks.due("cell after undefine", bench.cell(number, 0, 0, 0), 0);
            checks.due("count(6)", bench.count(6), 6);
        }
    }

    /** "Its counts stay." */
    private static void countsStay(Checks checks) {
        CellTransport bench = Checks.wholePlane(0, 0, 0);
        bench.surface(1, 0, 1, 0, 0);
        bench.token(1);
        bench.cell(0, 0, 0, 0);
        bench.token(0);
        bench.cell(1, 1000, 1000, 0);
        // One step from cell 0 into cell 1, where it is absorbed.
        bench.seed(Checks.stateThatDraws(Checks.direction(0), Checks.budget(1000)));
        bench.run(1);
        bench.undefine(1);
        bench.undefine(0);
        checks.tallies(bench, 1, 1, 1, 1, 0);
        checks.due("crossed(0, 1)", bench.crossed(0, 1), 1);
        checks.counts(bench, 1, 0, 0, 0, 1);
        bench.token(0);
        bench.cell(1, 1000, 1000, 0);
        checks.tallies(bench, 1, 1, 1, 1, 0);
        checks.due("crossed(0, 1) when defined anew", bench.crossed(0, 1), 1);
    }
}
