/** Promises 13 to 16: tally, crossed, count and clear. */
public final class CountsTest {
    private static final int[] WRONG = {-1, 7, 8, 100, Checks.MAX, Checks.MIN};

    public static void main(String[] args) {
        Checks checks = new Checks();
        tallyHasSixCellsAndFourKinds(checks);
        tallyTellsEachKindOfEachCell(checks);
        crossedHasSixCells(checks);
        crossingsAreCountedEachWay(checks);
        withinOneCellNothingCrosses(checks);
        aSourceOutsideCrossesNothing(checks);
        countHasSevenKinds(checks);
        countTellsTokensAndCells(checks);
        countTellsParticlesAndHistories(checks);
        askingChangesNothing(checks);
        clearOfNothing(checks);
        clearZeroesEveryCount(checks);
        clearKeepsTheRest(checks);
        countingStartsAnewAfterClear(checks);
        checks.end();
    }

    /** "Of the cell (0 .. 5) [..] its tracks (0), collisions (1), absorptions (2), fissions (3). REFUSED." */
    private static void tallyHasSixCellsAndFourKinds(Checks checks) {
        CellTransport bench = Checks.wholePlane(1000, 500, 500);
        int[][] due = {{0, 0, 0}, {5, 0, 0}, {0, 3, 0}, {5, 3, 0}, {-1, 0, -1}, {6, 0, -1}, {0, -1, -1}, {0, 4, -1},
            {5, 4, -1}, {6, 3, -1}, {6, 4, -1}, {-1, -1, -1}};
        for (int[] row : due) {
            checks.due("tally(" + row[0] + ", " + row[1] + ")", bench.tally(row[0], row[1]), row[2]);
        }
        for (int number : WRONG) {
            checks.due("tally(" + number + ", 0)", bench.tally(number, 0), Checks.REFUSED);
            checks.due("tally(0, " + number + ")", bench.tally(0, number), Checks.REFUSED);
        }
        checks.allCountsAreZero(bench);
    }

    /** The cell is one point; first it scatters, then it splits, then it absorbs, each time once. */
    private static void tallyTellsEachKindOfEachCell(Checks checks) {
        int start = Checks.stateThatDraws(Checks.direction(0), Checks.budget(1, 1000), Checks.share(0, 999));
        for (int cell = 0; cell < 6; cell++) {
            CellTransport bench = new CellTransport();
            bench.surface(0, 1, 1, 0, 0);
            int[][] shares = {{0, 0}, {0, 1000}, {1000, 0}};
            int[][] due = {{1, 1, 0, 0}, {2, 2, 0, 1}, {3, 3, 1, 1}};
            for (int round = 0; round < 3; round++) {
                bench.token(0);
                bench.cell(cell, 1000, shares[round][0], shares[round][1]);
                bench.seed(start);
                bench.run(1);
                for (int other = 0; other < 6; other++) {
                    checks.tallies(bench, other, other == cell ? due[round] : new int[4]);
                }
            }
        }
    }

    /** "from the one cell to the other (0 .. 5 both [..]). REFUSED." */
    private static void crossedHasSixCells(Checks checks) {
        CellTransport bench = Checks.wholePlane(1000, 500, 500);
        int[][] due = {{0, 5, 0}, {5, 0, 0}, {0, 0, 0}, {5, 5, 0}, {-1, 0, -1}, {6, 0, -1}, {0, -1, -1}, {0, 6, -1},
            {6, 6, -1}, {-1, -1, -1}, {5, 6, -1}, {6, 5, -1}};
        for (int[] row : due) {
            checks.due("crossed(" + row[0] + ", " + row[1] + ")", bench.crossed(row[0], row[1]), row[2]);
        }
        for (int number : WRONG) {
            checks.due("crossed(" + number + ", 0)", bench.crossed(number, 0), Checks.REFUSED);
            checks.due("crossed(0, " + number + ")", bench.crossed(0, number), Checks.REFUSED);
            checks.due("crossed of the same", bench.crossed(number, number), Checks.REFUSED);
        }
    }

    private static void crossings(Checks checks, CellTransport bench, int[][] due) {
        for (int from = 0; from < 6; from++) {
            for (int to = 0; to < 6; to++) {
                int want = 0;
                for (int[] row : due) {
                    want += row[0] == from && row[1] == to ? row[2] : 0;
                }
                checks.due("crossed(" + from + ", " + to + ")", bench.crossed(from, to), want);
            }
        }
    }

    private static int eastForever() {
        return Checks.stateThatDraws(Checks.direction(0), Checks.budget(1));
    }

    /** "if the place before was in another cell, a CROSSING from that cell to this one is counted" */
    private static void crossingsAreCountedEachWay(Checks checks) {
        CellTransport bench = new CellTransport();
        // Stripes of x: cell 5 up to 0, cell 2 from 1 to 3, cell 4 at 4 and 5, cell 2 again from 6.
        bench.surface(0, 0, 1, 0, 0);
        bench.surface(1, 0, 1, 0, 3);
        bench.surface(2, 0, 1, 0, 5);
        Checks.tokens(bench, 0, 10, 1, 8, 2, 10, 9);
        bench.cell(2, 0, 0, 0);
        Checks.tokens(bench, 2, 1, 10, 8);
        bench.cell(4, 0, 0, 0);
        bench.token(0);
        bench.cell(5, 0, 0, 0);
        bench.seed(eastForever());
        bench.run(1);
        crossings(checks, bench, new int[][] {{5, 2, 1}, {2, 4, 1}, {4, 2, 1}});
        checks.tallies(bench, 5, 0, 0, 0, 0);
        checks.tallies(bench, 4, 2, 0, 0, 0);
        checks.tallies(bench, 2, 198, 0, 0, 0);
        bench.seed(eastForever());
        bench.run(1);
        crossings(checks, bench, new int[][] {{5, 2, 2}, {2, 4, 2}, {4, 2, 2}});
    }

    /** "0 if they are the same" */
    private static void withinOneCellNothingCrosses(Checks checks) {
        for (int cell = 0; cell < 6; cell++) {
            CellTransport bench = new CellTransport();
            Checks.everywhere(bench, 0);
            bench.token(0);
            bench.cell(cell, 0, 0, 0);
            bench.run(2);
            checks.due("tally(" + cell + ", 0)", bench.tally(cell, 0), 400);
            crossings(checks, bench, new int[0][]);
        }
    }

    /** OUTSIDE is no cell: what comes in from there, or leaks, crosses nothing. */
    private static void aSourceOutsideCrossesNothing(Checks checks) {
        CellTransport bench = new CellTransport();
        bench.surface(0, 0, -1, 0, -1);
        bench.surface(1, 0, 1, 0, 200);
        Checks.tokens(bench, 0, 1, 8);
        bench.cell(0, 0, 0, 0);
        bench.seed(eastForever());
        bench.run(1);
        checks.due("where(0, 0)", bench.where(0, 0), Checks.OUTSIDE);
        checks.tallies(bench, 0, 200, 0, 0, 0);
        checks.counts(bench, 1, 0, 1, 0, 1);
        bench.source(1, 0);
        bench.seed(eastForever());
        bench.run(1);
        checks.tallies(bench, 0, 399, 0, 0, 0);
        checks.counts(bench, 2, 1, 1, 0, 2);
        crossings(checks, bench, new int[0][]);
    }

    /** "REFUSED for another number." */
    private static void countHasSevenKinds(Checks checks) {
        CellTransport bench = Checks.wholePlane(1000, 500, 500);
        checks.due("count(-1)", bench.count(-1), Checks.REFUSED);
        checks.due("count(0)", bench.count(0), 0);
        checks.due("count(6)", bench.count(6), 1);
        checks.due("count(7)", bench.count(7), Checks.REFUSED);
        for (int what : WRONG) {
            checks.due("count(" + what + ")", bench.count(what), Checks.REFUSED);
        }
    }

    /** "tokens in the buffer (5), cells defined (6)": from none to all. */
    private static void countTellsTokensAndCells(Checks checks) {
        CellTransport bench = new CellTransport();
        for (int tokens = 0; tokens < 8; tokens++) {
            checks.due("count(5)", bench.count(5), tokens);
            bench.token(3);
        }
        checks.due("count(5) of a full buffer", bench.count(5), 8);
        checks.due("count(6) beside a full buffer", bench.count(6), 0);
        bench.cell(0, 0, 0, 0);
        for (int cell = 5; cell >= 0; cell--) {
            checks.due("count(6)", bench.count(6), 5 - cell);
            bench.token(3);
            bench.cell(cell, 0, 0, 0);
        }
        checks.due("count(6) of all cells", bench.count(6), 6);
        checks.due("count(5)", bench.count(5), 0);
    }

    /** "Particles that flew (0), leaked (1), were cut (2), were lost (3), histories (4)" */
    private static void countTellsParticlesAndHistories(Checks checks) {
        CellTransport bench = new CellTransport();
        checks.counts(bench, 0, 0, 0, 0, 0);
        bench.run(1);
        checks.counts(bench, 1, 1, 0, 0, 1);
        Checks.everywhere(bench, 0);
        bench.token(0);
        bench.cell(0, 0, 0, 0);
        bench.run(2);
        checks.counts(bench, 3, 1, 2, 0, 3);
        bench.token(0);
        bench.cell(0, 1000, 0, 1000);
        bench.run(1);
        checks.counts(bench, 15, 1, 2, 13, 4);
        bench.token(0);
        bench.cell(0, 1000, 1000, 0);
        bench.run(1);
        checks.counts(bench, 16, 1, 2, 13, 5);
    }

    private static void askingChangesNothing(Checks checks) {
        CellTransport bench = Checks.wholePlane(1000, 0, 1000);
        bench.run(1);
        int state = bench.state();
        for (int round = 0; round < 3; round++) {
            checks.counts(bench, 12, 0, 0, 13, 1);
            checks.due("tally(0, 3)", bench.tally(0, 3), 12);
            checks.due("crossed(0, 1)", bench.crossed(0, 1), 0);
            checks.due("tally(6, 0)", bench.tally(6, 0), Checks.REFUSED);
            checks.due("crossed(0, 6)", bench.crossed(0, 6), Checks.REFUSED);
            checks.due("count(7)", bench.count(7), Checks.REFUSED);
        }
        checks.due("state()", bench.state(), state);
    }

    private static void clearOfNothing(Checks checks) {
        CellTransport bench = new CellTransport();
        bench.clear();
        checks.allCountsAreZero(bench);
        bench.clear();
        checks.allCountsAreZero(bench);
        checks.due("state()", bench.state(), 1);
    }

    /** Each of two cells is half of the plane, and every kind of count is above 0. */
    private static CellTransport muchCounted() {
        CellTransport bench = Checks.wholePlane(0, 0, 0);
        bench.surface(1, 0, 1, 1, 0);
        bench.token(0);
        bench.cell(1, 1, 300, 400);
        bench.token(1);
        bench.cell(0, 700, 300, 400);
        bench.source(3, -3);
        Checks.tokens(bench, 0, 1);
        for (int round = 0; round < 100; round++) {
            bench.run(2);
        }
        bench.surface(0, 1, 0, 0, 9);
        bench.surface(1, 0, 1, 0, 1);
        for (int round = 0; round < 20; round++) {
            bench.run(2);
        }
        return bench;
    }

    /** "Tallies, crossings, and the counts 0 to 4 become 0." */
    private static void clearZeroesEveryCount(Checks checks) {
        CellTransport bench = muchCounted();
        for (int what = 0; what < 5; what++) {
            checks.due("count(" + what + ") is above 0", bench.count(what) > 0 ? 1 : 0, 1);
        }
        for (int cell = 0; cell < 2; cell++) {
            for (int what = 0; what < 4; what++) {
                checks.due("tally(" + cell + ", " + what + ") is above 0", bench.tally(cell, what) > 0 ? 1 : 0, 1);
            }
            checks.due("crossed is above 0", bench.crossed(cell, 1 - cell) > 0 ? 1 : 0, 1);
        }
        bench.clear();
        checks.allCountsAreZero(bench);
    }

    private static void clearKeepsTheRest(Checks checks) {
        CellTransport bench = muchCounted();
        bench.surface(1, 0, 1, 1, 0);
        Checks.everywhere(bench, 0);
        int state = bench.state();
        bench.clear();
        checks.due("state()", bench.state(), state);
        checks.due("count(5)", bench.count(5), 2);
        checks.due("count(6)", bench.count(6), 2);
        checks.due("where(0, 0)", bench.where(0, 0), 0);
        checks.due("where(1, 0)", bench.where(1, 0), 1);
        checks.due("surface(1) was set", bench.surface(1, 0, 1, 1, 0), 1);
        // With only the east neighbour of the old source left, a run tells whether the source is still there.
        bench.surface(1, 1, 4, -3, 0);
        bench.undefine(1);
        bench.seed(Checks.stateThatDraws(Checks.direction(0), Checks.budget(2000)));
        bench.run(1);
        checks.due("tracks from the kept source", bench.tally(0, 0), 1);
        bench.token(8);
        checks.due("cell of the kept tokens", bench.cell(2, 0, 0, 0), 0);
        checks.due("where in the kept tokens' region", bench.where(4, -3), 0);
        bench.undefine(0);
        checks.due("where in the kept tokens' region", bench.where(4, -3), 2);
        checks.due("where beside the kept tokens' region", bench.where(3, -3), Checks.OUTSIDE);
    }

    /** "since the counts were cleared last" */
    private static void countingStartsAnewAfterClear(Checks checks) {
        CellTransport bench = Checks.wholePlane(1000, 0, 1000);
        for (int round = 0; round < 4; round++) {
            bench.run(1);
            checks.counts(bench, 12, 0, 0, 13, 1);
            checks.due("tally(0, 1)", bench.tally(0, 1), 12);
            checks.due("tally(0, 3)", bench.tally(0, 3), 12);
            bench.clear();
        }
    }
}
