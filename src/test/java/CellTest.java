import java.util.Arrays;

/** Promise 4: cell. */
public final class CellTest {
    public static void main(String[] args) {
        Checks checks = new Checks();
        answersWhetherItWasDefined(checks);
        firstAndLastNumberAreTaken(checks);
        lastDensitiesAreTaken(checks);
        lastSharesAreTaken(checks);
        outOfRangeIsRefused(checks);
        outOfRangeKeepsABufferThatTellsARegion(checks);
        outOfRangeKeepsABufferThatTellsNone(checks);
        outOfRangeKeepsTheCell(checks);
        theBufferIsEmptiedInAnyCase(checks);
        noRegionLeavesItUndefined(checks);
        noRegionLeavesTheCellAsBefore(checks);
        aCellDefinedAgainIsNew(checks);
        checks.end();
    }

    /** "1 if the cell was defined before, else 0" */
    private static void answersWhetherItWasDefined(Checks checks) {
        CellTransport bench = new CellTransport();
        for (int number = 0; number < 6; number++) {
            bench.token(0);
            checks.due("cell first", bench.cell(number, 0, 0, 0), 0);
            checks.due("count(6)", bench.count(6), number + 1);
            bench.token(0);
            checks.due("cell again", bench.cell(number, 0, 0, 0), 1);
            checks.due("count(6)", bench.count(6), number + 1);
        }
    }

    /** "the cell (0 .. 5)" */
    private static void firstAndLastNumberAreTaken(Checks checks) {
        int[][] due = {{-1, Checks.REFUSED}, {0, 0}, {5, 0}, {6, Checks.REFUSED}};
        for (int[] row : due) {
            CellTransport bench = new CellTransport();
            Checks.everywhere(bench, 0);
            bench.token(0);
            checks.due("cell(" + row[0] + ", 0, 0, 0)", bench.cell(row[0], 0, 0, 0), row[1]);
            checks.due("where", bench.where(0, 0), row[1] == 0 ? row[0] : Checks.OUTSIDE);
        }
    }

    /** "density 0 .. 1000": with 0 nothing collides, and with 1000 a budget of 2000 ends at the second step. */
    private static void lastDensitiesAreTaken(Checks checks) {
        int start = Checks.stateThatDraws(Checks.direction(0), Checks.budget(2000));
        int[][] due = {{0, 200, 0}, {1, 200, 0}, {999, 3, 1}, {1000, 2, 1}};
        for (int[] row : due) {
            CellTransport bench = new CellTransport();
            Checks.everywhere(bench, 0);
            bench.token(0);
            checks.due("cell of density " + row[0], bench.cell(0, row[0], 1000, 0), 0);
            bench.seed(start);
            bench.run(1);
            checks.tallies(bench, 0, row[1], row[2], row[2], 0);
        }
        CellTransport bench = new CellTransport();
        bench.token(0);
        checks.due("density -1", bench.cell(0, -1, 0, 0), Checks.REFUSED);
        checks.due("density 1001", bench.cell(0, 1001, 0, 0), Checks.REFUSED);
    }

    /** "the shares, each 0 or more and together at most 1000" */
    private static void lastSharesAreTaken(Checks checks) {
        int[][] due = {
            {0, 0, 0}, {1000, 0, 0}, {0, 1000, 0}, {999, 1, 0}, {1, 999, 0}, {500, 500, 0}, {0, 1, 0}, {1, 0, 0},
            {-1, 0, -1}, {0, -1, -1}, {1001, 0, -1}, {0, 1001, -1}, {1000, 1, -1}, {1, 1000, -1}, {500, 501, -1},
            {501, 500, -1}, {-1, 1000, -1}, {1000, -1, -1}, {-1, 1001, -1}, {1001, -1, -1}, {-1, -1, -1}};
        for (int[] row : due) {
            CellTransport bench = new CellTransport();
            bench.token(0);
            checks.due("shares " + row[0] + " and " + row[1], bench.cell(0, 0, row[0], row[1]), row[2]);
            checks.due("count(6)", bench.count(6), row[2] + 1);
        }
    }

    private static final int[][] WRONG = {
        {-1, 0, 0, 0}, {6, 0, 0, 0}, {Checks.MAX, 0, 0, 0}, {Checks.MIN, 0, 0, 0},
        {0, -1, 0, 0}, {0, 1001, 0, 0}, {0, Checks.MAX, 0, 0}, {0, Checks.MIN, 0, 0},
        {0, 0, -1, 0}, {0, 0, 1001, 0}, {0, 0, 0, -1}, {0, 0, 0, 1001}, {0, 0, 1, 1000}, {0, 0, 500, 501},
        {0, 0, -1, 1001}, {0, 0, 1001, -1}, {0, 0, Checks.MAX, Checks.MAX}, {0, 0, Checks.MAX, 1},
        {0, 0, 1, Checks.MAX}, {0, 0, Checks.MIN, Checks.MIN}, {0, 0, Checks.MIN, Checks.MAX},
        {0, 0, Checks.MAX, Checks.MIN}, {0, 0, Checks.MIN, 0}, {0, 0, 0, Checks.MIN}};

    private static int cell(CellTransport bench, int[] row) {
        return bench.cell(row[0], row[1], row[2], row[3]);
    }

    /** "Out of range: REFUSED." */
    private static void outOfRangeIsRefused(Checks checks) {
        for (int[] row : WRONG) {
            CellTransport bench = new CellTransport();
            checks.due("with an empty buffer, cell" + Arrays.toString(row), cell(bench, row), Checks.REFUSED);
            bench.token(0);
            checks.due("with a region, cell" + Arrays.toString(row), cell(bench, row), Checks.REFUSED);
            checks.due("count(6)", bench.count(6), 0);
        }
    }

    private static void outOfRangeKeepsABufferThatTellsARegion(Checks checks) {
        CellTransport bench = new CellTransport();
        Checks.everywhere(bench, 0);
        Checks.tokens(bench, 0, 10, 10);
        for (int[] row : WRONG) {
            cell(bench, row);
            checks.due("count(5) after cell" + Arrays.toString(row), bench.count(5), 3);
        }
        checks.due("cell after refusals", bench.cell(0, 0, 0, 0), 0);
        checks.due("where", bench.where(0, 0), 0);
    }

    /** "numbers out of range are refused before all else": before the buffer is looked at and emptied. */
    private static void outOfRangeKeepsABufferThatTellsNone(Checks checks) {
        CellTransport bench = new CellTransport();
        Checks.everywhere(bench, 1);
        Checks.tokens(bench, 0, 1);
        for (int[] row : WRONG) {
            cell(bench, row);
            checks.due("count(5) after cell" + Arrays.toString(row), bench.count(5), 2);
        }
        bench.token(9);
        checks.due("cell of the tokens kept", bench.cell(0, 0, 0, 0), 0);
        checks.due("where", bench.where(0, 0), 0);
    }

    private static void outOfRangeKeepsTheCell(Checks checks) {
        CellTransport bench = Checks.wholePlane(1000, 1000, 0);
        bench.token(7);
        for (int[] row : WRONG) {
            cell(bench, row);
            bench.clear();
            bench.run(1);
            checks.due("where after cell" + Arrays.toString(row), bench.where(9, 9), 0);
            checks.due("absorptions", bench.tally(0, 2), 1);
            checks.due("tracks of density 1000", bench.tally(0, 0) <= 2 ? 1 : 0, 1);
        }
    }

    private static final int[][] NO_REGION = {
        {}, {8}, {9}, {10}, {0, 1}, {0, 8}, {0, 9}, {8, 0, 1}, {0, 8, 1}, {10, 0}, {0, 10, 1}, {0, 1, 2, 8},
        {0, 1, 8, 8}, {0, 8, 1, 2}, {9, 0, 1, 2}, {0, 1, 2, 3, 4, 5, 6, 7}, {0, 1, 2, 3, 4, 8, 8, 8},
        {0, 10, 9, 1, 2}, {10, 0, 1, 8}};

    /** "Else the buffer is emptied in any case" */
    private static void theBufferIsEmptiedInAnyCase(Checks checks) {
        CellTransport bench = new CellTransport();
        for (int[] tokens : NO_REGION) {
            Checks.tokens(bench, tokens);
            checks.due("cell of " + Arrays.toString(tokens), bench.cell(0, 0, 0, 0), Checks.REFUSED);
            checks.due("count(5)", bench.count(5), 0);
            checks.due("the next token", bench.token(0), 1);
            bench.cell(1, 0, 0, 0);
            checks.due("count(5) after a region", bench.count(5), 0);
        }
    }

    /** "if it does not tell a region the answer is REFUSED and the cell is as before": not defined, here. */
    private static void noRegionLeavesItUndefined(Checks checks) {
        CellTransport bench = new CellTransport();
        for (int[] tokens : NO_REGION) {
            Checks.tokens(bench, tokens);
            bench.cell(0, 0, 0, 0);
            checks.due("count(6)", bench.count(6), 0);
            checks.due("undefine(0)", bench.undefine(0), 0);
        }
    }

    /** The same of a cell that is defined: its region, density and shares stay. */
    private static void noRegionLeavesTheCellAsBefore(Checks checks) {
        CellTransport bench = Checks.wholePlane(1000, 1000, 0);
        for (int[] tokens : NO_REGION) {
            Checks.tokens(bench, tokens);
            bench.cell(0, 0, 0, 1000);
            checks.due("where", bench.where(9, 9), 0);
            checks.due("count(6)", bench.count(6), 1);
            bench.clear();
            bench.run(1);
            checks.due("absorptions", bench.tally(0, 2), 1);
            checks.due("fissions", bench.tally(0, 3), 0);
        }
    }

    private static void aCellDefinedAgainIsNew(Checks checks) {
        CellTransport bench = Checks.wholePlane(1000, 1000, 0);
        bench.surface(1, 1, 0, 0, 300);
        bench.token(1);
        checks.due("cell again", bench.cell(0, 0, 0, 1000), 1);
        checks.due("the new region", bench.where(301, 0), Checks.OUTSIDE);
        bench.run(2);
        checks.due("no collisions with the new density", bench.tally(0, 1), 0);
        bench.token(1);
        bench.cell(0, 1000, 0, 1000);
        bench.run(1);
        checks.due("no absorptions with the new shares", bench.tally(0, 2), 0);
        checks.due("fissions with the new shares", bench.tally(0, 3), 12);
    }
}
