/** Promises 10 and 13 to 16: run, tally, crossed, count and clear. */
public final class HistoryTest {
    private static final int EAST = 0;
    private static final int NORTH = 2;

    public static void main(String[] args) {
        Checks checks = new Checks();
        wrongNumbersAreRefused(checks);
        runPlaysOneOrTwoHistories(checks);
        leaksAtTheFirstStep(checks);
        cutAfter200Steps(checks);
        collidesWhenTheBudgetIsGone(checks);
        sharesDecide(checks);
        scatteringDrawsAnew(checks);
        aCollisionAtStep200ComesBeforeTheCut(checks);
        twelveParticlesInAll(checks);
        theLastToComeFliesFirst(checks);
        crossingsAreCounted(checks);
        aSourceOutsideCrossesNothing(checks);
        clearKeepsTheRest(checks);
        checks.end();
    }

    /** A start from which the particle flies east with the budget and then draws r below 1000. */
    private static int eastWith(int budget, int r) {
        return Checks.stateThatDraws(Checks.direction(EAST), Checks.budget(budget), new int[] {1000, r, r});
    }

    private static int eastWith(int budget) {
        return Checks.stateThatDraws(Checks.direction(EAST), Checks.budget(budget));
    }

    private static void counts(Checks checks, CellTransport bench, int flown, int leaked, int cut, int lost, int histories) {
        int[] due = {flown, leaked, cut, lost, histories};
        for (int what = 0; what < 5; what++) {
            checks.due("count(" + what + ")", bench.count(what), due[what]);
        }
    }

    private static void tallies(Checks checks, CellTransport bench, int cell, int... due) {
        for (int what = 0; what < 4; what++) {
            checks.due("tally(" + cell + ", " + what + ")", bench.tally(cell, what), due[what]);
        }
    }

    private static void wrongNumbersAreRefused(Checks checks) {
        CellTransport bench = Checks.wholePlane(1000, 500, 500);
        for (int number : new int[] {-1, 7, 8, 100, Integer.MAX_VALUE, Integer.MIN_VALUE}) {
            checks.due("run(" + number + ")", bench.run(number), Checks.REFUSED);
            checks.due("count(" + number + ")", bench.count(number), Checks.REFUSED);
            checks.due("tally(" + number + ", 0)", bench.tally(number, 0), Checks.REFUSED);
            checks.due("tally(0, " + number + ")", bench.tally(0, number), Checks.REFUSED);
            checks.due("crossed(" + number + ", 0)", bench.crossed(number, 0), Checks.REFUSED);
            checks.due("crossed(0, " + number + ")", bench.crossed(0, number), Checks.REFUSED);
            checks.due("crossed of the same", bench.crossed(number, number), Checks.REFUSED);
        }
        checks.due("run(0)", bench.run(0), Checks.REFUSED);
        checks.due("run(3)", bench.run(3), Checks.REFUSED);
        checks.due("tally(6, 0)", bench.tally(6, 0), Checks.REFUSED);
        checks.due("tally(0, 4)", bench.tally(0, 4), Checks.REFUSED);
        checks.due("crossed(6, 0)", bench.crossed(6, 0), Checks.REFUSED);
        checks.due("crossed(0, 6)", bench.crossed(0, 6), Checks.REFUSED);
        counts(checks, bench, 0, 0, 0, 0, 0);
        tallies(checks, bench, 0, 0, 0, 0, 0);
        checks.due("state()", bench.state(), 1);
    }

    private static void runPlaysOneOrTwoHistories(Checks checks) {
        CellTransport once = Checks.wholePlane(300, 300, 400);
        CellTransport twice = Checks.wholePlane(300, 300, 400);
        int flown = 0;
        for (int round = 0; round < 40; round++) {
            int both = once.run(1) + once.run(1);
            checks.due("run(2)", twice.run(2), both);
            flown += both;
            checks.due("state()", twice.state(), once.state());
            checks.due("count(0)", twice.count(0), flown);
            checks.due("count(4)", twice.count(4), 2 * round + 2);
            checks.due("count(4)", once.count(4), 2 * round + 2);
        }
    }

    private static void leaksAtTheFirstStep(Checks checks) {
        CellTransport bench = new CellTransport();
        checks.due("run without cells", bench.run(1), 1);
        counts(checks, bench, 1, 1, 0, 0, 1);
        checks.due("state after two draws", bench.state(), Checks.next(Checks.next(1)));
        checks.due("run without cells", bench.run(2), 2);
        counts(checks, bench, 3, 3, 0, 0, 3);
    }

    private static void cutAfter200Steps(Checks checks) {
        for (int width = 198; width <= 201; width++) {
            CellTransport bench = new CellTransport();
            bench.surface(0, 0, 1, 0, width);
            bench.token(0);
            bench.cell(0, 0, 1000, 0);
            bench.seed(eastWith(1));
            checks.due("run(1)", bench.run(1), 1);
            boolean leaks = width < 200;
            counts(checks, bench, 1, leaks ? 1 : 0, leaks ? 0 : 1, 0, 1);
            tallies(checks, bench, 0, Math.min(width, 200), 0, 0, 0);
        }
    }

    private static void collidesWhenTheBudgetIsGone(Checks checks) {
        int[][] due = {{1, 10, 1}, {9, 10, 1}, {10, 10, 1}, {11, 10, 2}, {20, 10, 2}, {21, 10, 3},
            {1, 1, 1}, {2, 1, 2}, {200, 1, 200}, {2000, 1000, 2}, {1000, 1000, 1}, {1001, 1000, 2}};
        for (int[] row : due) {
            CellTransport bench = Checks.wholePlane(row[1], 1000, 0);
            bench.seed(eastWith(row[0]));
            bench.run(1);
            tallies(checks, bench, 0, row[2], 1, 1, 0);
            counts(checks, bench, 1, 0, 0, 0, 1);
        }
        CellTransport bench = Checks.wholePlane(1, 1000, 0);
        bench.seed(eastWith(201));
        bench.run(1);
        tallies(checks, bench, 0, 200, 0, 0, 0);
        counts(checks, bench, 1, 0, 1, 0, 1);
    }

    /** The cell is one point beside the source, so what flies on after its first step leaks. */
    private static void sharesDecide(Checks checks) {
        int[][] due = {{0, 300, 400, 1, 0}, {299, 300, 400, 1, 0}, {300, 300, 400, 0, 1}, {699, 300, 400, 0, 1},
            {700, 300, 400, 0, 0}, {999, 300, 400, 0, 0}, {0, 0, 0, 0, 0}, {0, 0, 1, 0, 1}, {0, 1, 0, 1, 0},
            {999, 1000, 0, 1, 0}, {999, 0, 1000, 0, 1}, {999, 999, 1, 0, 1}, {999, 999, 0, 0, 0}};
        for (int[] row : due) {
            CellTransport bench = new CellTransport();
            bench.surface(0, 1, 1, 0, 0);
            bench.token(0);
            bench.cell(0, 1000, row[1], row[2]);
            bench.seed(eastWith(1, row[0]));
            int flown = bench.run(1);
            checks.due("run(1)", flown, 1 + 2 * row[4]);
            tallies(checks, bench, 0, 1, 1, row[3], row[4]);
            counts(checks, bench, flown, row[3] == 1 ? 0 : flown - row[4], 0, 0, 1);
        }
    }

    private static void scatteringDrawsAnew(Checks checks) {
        CellTransport bench = new CellTransport();
        bench.surface(0, 0, 1, 0, 5);
        bench.surface(1, 0, 0, 1, 3);
        Checks.tokens(bench, 0, 1, 8);
        bench.cell(0, 400, 500, 0);
        // Five steps east, then north with a budget that ends at the third step there, where it is absorbed.
        int start = Checks.stateThatDraws(
            Checks.direction(EAST), new int[] {2000, 1600, 1999}, new int[] {1000, 500, 999},
            Checks.direction(NORTH), new int[] {2000, 800, 1199}, new int[] {1000, 0, 499});
        bench.seed(start);
        bench.run(1);
        tallies(checks, bench, 0, 8, 2, 1, 0);
        counts(checks, bench, 1, 0, 0, 0, 1);
        checks.due("state after six draws", bench.state(), stateAfter(start, 6));
    }

    private static long stateAfter(long state, int draws) {
        for (int draw = 0; draw < draws; draw++) {
            state = Checks.next(state);
        }
        return state;
    }

    private static void aCollisionAtStep200ComesBeforeTheCut(Checks checks) {
        CellTransport bench = Checks.wholePlane(1, 0, 0);
        int start = eastWith(200);
        bench.seed(start);
        bench.run(1);
        tallies(checks, bench, 0, 200, 1, 0, 0);
        counts(checks, bench, 1, 0, 1, 0, 1);
        checks.due("state after five draws", bench.state(), stateAfter(start, 5));
    }

    private static void twelveParticlesInAll(Checks checks) {
        CellTransport bench = Checks.wholePlane(1000, 0, 1000);
        for (int history = 1; history <= 5; history++) {
            checks.due("run(1)", bench.run(1), 12);
            counts(checks, bench, 12 * history, 0, 0, 13 * history, history);
            checks.due("tally(0, 1)", bench.tally(0, 1), 12 * history);
            checks.due("tally(0, 3)", bench.tally(0, 3), 12 * history);
        }
    }

    /** The cells are the points (1, 0) and (2, 0), so that every track tells where a particle came from. */
    private static void theLastToComeFliesFirst(Checks checks) {
        CellTransport bench = new CellTransport();
        for (int cell = 0; cell < 2; cell++) {
            bench.surface(cell, 1, cell + 1, 0, 0);
            bench.token(cell);
            bench.cell(cell, 1000, 0, 1000);
        }
        int[] one = {2000, 0, 999};
        int[] any = {1000, 0, 999};
        // The first splits at (1, 0), a twin of it splits at (2, 0). The third flies east: from (2, 0) it leaks,
        // but from (1, 0) it would come to (2, 0). The fourth leaks from (2, 0), the fifth from (1, 0).
        int start = Checks.stateThatDraws(Checks.direction(EAST), one, any, Checks.direction(EAST), one, any,
            Checks.direction(EAST), one, new int[] {8, 0, 3}, one, new int[] {8, 1, 7});
        bench.seed(start);
        checks.due("run(1)", bench.run(1), 5);
        tallies(checks, bench, 0, 1, 1, 0, 1);
        tallies(checks, bench, 1, 1, 1, 0, 1);
        counts(checks, bench, 5, 3, 0, 0, 1);
        checks.due("crossed(0, 1)", bench.crossed(0, 1), 1);
        checks.due("state after twelve draws", bench.state(), stateAfter(start, 12));
    }

    private static void crossingsAreCounted(Checks checks) {
        CellTransport bench = new CellTransport();
        // Stripes of x: cell 5 up to 0, cell 2 from 1 to 3, cell 4 at 4 and 5, cell 2 again from 6.
        bench.surface(0, 0, 1, 0, 0);
        bench.surface(1, 0, 1, 0, 3);
        bench.surface(2, 0, 1, 0, 5);
        Checks.tokens(bench, 0, 10, 1, 8, 2, 10, 9);
        bench.cell(2, 0, 0, 0);
        Checks.tokens(bench, 2, 1, 10, 8);
        bench.cell(4, 0, 0, 0);
        bench.token(0);
        bench.cell(5, 0, 0, 0);
        bench.seed(eastWith(1));
        bench.run(1);
        for (int from = 0; from < 6; from++) {
            for (int to = 0; to < 6; to++) {
                boolean crossed = from == 5 && to == 2 || from == 2 && to == 4 || from == 4 && to == 2;
                checks.due("crossed(" + from + ", " + to + ")", bench.crossed(from, to), crossed ? 1 : 0);
            }
        }
        tallies(checks, bench, 5, 0, 0, 0, 0);
        tallies(checks, bench, 4, 2, 0, 0, 0);
        tallies(checks, bench, 2, 198, 0, 0, 0);
    }

    private static void aSourceOutsideCrossesNothing(Checks checks) {
        CellTransport bench = new CellTransport();
        bench.surface(0, 0, -1, 0, -1);
        bench.token(0);
        bench.cell(0, 0, 0, 0);
        bench.seed(eastWith(1));
        bench.run(1);
        checks.due("where(0, 0)", bench.where(0, 0), Checks.OUTSIDE);
        tallies(checks, bench, 0, 200, 0, 0, 0);
        counts(checks, bench, 1, 0, 1, 0, 1);
        for (int from = 0; from < 6; from++) {
            for (int to = 0; to < 6; to++) {
                checks.due("crossed(" + from + ", " + to + ")", bench.crossed(from, to), 0);
            }
        }
    }

    private static void clearKeepsTheRest(Checks checks) {
        CellTransport bench = Checks.wholePlane(700, 300, 400);
        bench.surface(1, 0, 1, 1, 0);
        bench.token(1);
        bench.cell(0, 700, 300, 400);
        bench.token(0);
        bench.cell(1, 300, 200, 300);
        bench.source(3, -3);
        Checks.tokens(bench, 0, 1);
        for (int round = 0; round < 30; round++) {
            bench.run(2);
        }
        checks.due("something crossed", bench.crossed(0, 1) > 0 && bench.crossed(1, 0) > 0 ? 1 : 0, 1);
        int state = bench.state();
        bench.clear();
        counts(checks, bench, 0, 0, 0, 0, 0);
        for (int cell = 0; cell < 6; cell++) {
            tallies(checks, bench, cell, 0, 0, 0, 0);
            for (int to = 0; to < 6; to++) {
                checks.due("crossed", bench.crossed(cell, to), 0);
            }
        }
        checks.due("state()", bench.state(), state);
        checks.due("count(5)", bench.count(5), 2);
        checks.due("count(6)", bench.count(6), 2);
        checks.due("where(0, 0)", bench.where(0, 0), 0);
        checks.due("where(1, 0)", bench.where(1, 0), 1);
        checks.due("surface(1) was set", bench.surface(1, 0, 1, 1, 0), 1);
        // With only the east neighbour of the old source left, a run tells whether the source is still there.
        bench.surface(1, 1, 4, -3, 0);
        bench.undefine(1);
        bench.seed(eastWith(2000));
        bench.run(1);
        checks.due("tracks from the kept source", bench.tally(0, 0), 1);
    }
}
