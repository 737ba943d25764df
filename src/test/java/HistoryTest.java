/** Of the terms: a history. */
public final class HistoryTest {
    private static final int EAST = 0;
    private static final int NORTH = 2;
    private static final int WEST = 4;

    public static void main(String[] args) {
        Checks checks = new Checks();
        everyDirectionIsFlown(checks);
        directionComesBeforeBudget(checks);
        theFirstStepMayLeak(checks);
        aStepOutsideTakesNothing(checks);
        theLeastAndTheMostBudget(checks);
        collidesAtZeroOrLess(checks);
        withoutDensityNothingCollides(checks);
        theDensityIsThatOfTheCellEntered(checks);
        absorbedIfLessThanTheShare(checks);
        fissionIfLessThanBothShares(checks);
        scatteringDrawsAnew(checks);
        cutAfter200Steps(checks);
        whatEndsAtStep200IsNotCut(checks);
        aCollisionAtStep200ComesBeforeTheCut(checks);
        scatteringDoesNotStartTheStepsAnew(checks);
        eachParticleHasItsOwnSteps(checks);
        twinsFlyFromItsPlace(checks);
        elevenParticlesLoseNone(checks);
        twelveParticlesInAll(checks);
        eachHistoryHasTwelve(checks);
        theLastToComeFliesFirst(checks);
        checks.end();
    }

    /** A start from which the particle flies east with the budget and then draws r below 1000. */
    private static int eastWith(int budget, int r) {
        return Checks.stateThatDraws(Checks.direction(EAST), Checks.budget(budget), Checks.share(r, r));
    }

    private static int eastWith(int budget) {
        return Checks.stateThatDraws(Checks.direction(EAST), Checks.budget(budget));
    }

    private static CellTransport onePoint(int x, int y, int density, int absorption, int fission) {
        CellTransport bench = new CellTransport();
        bench.surface(0, 1, x, y, 0);
        bench.token(0);
        bench.cell(0, density, absorption, fission);
        return bench;
    }

    /** "it takes its direction, a draw below 8": draw d flies in direction d. */
    private static void everyDirectionIsFlown(Checks checks) {
        for (int drawn = 0; drawn < 8; drawn++) {
            int start = Checks.stateThatDraws(Checks.direction(drawn));
            for (int direction = 0; direction < 8; direction++) {
                CellTransport bench = onePoint(Checks.STEP_X[direction], Checks.STEP_Y[direction], 0, 0, 0);
                bench.seed(start);
                bench.run(1);
                checks.due("tracks of direction " + drawn, bench.tally(0, 0), drawn == direction ? 1 : 0);
            }
        }
    }

    /** "then a BUDGET": the second draw alone tells how far it flies. */
    private static void directionComesBeforeBudget(Checks checks) {
        CellTransport bench = Checks.halfPlane(150, 10, 1000, 0);
        int start = Checks.stateThatDraws(Checks.direction(EAST), Checks.budget(1001, 1010));
        bench.seed(start);
        bench.run(1);
        checks.tallies(bench, 0, 101, 1, 1, 0);
        checks.due("state after three draws", bench.state(), Checks.stateAfter(start, 3));
    }

    /** "If the place is then outside, it is LEAKED and over." */
    private static void theFirstStepMayLeak(Checks checks) {
        CellTransport bench = new CellTransport();
        checks.due("run without cells", bench.run(1), 1);
        checks.counts(bench, 1, 1, 0, 0, 1);
        checks.due("state after two draws", bench.state(), Checks.stateAfter(1, 2));
        checks.due("run without cells", bench.run(2), 2);
        checks.counts(bench, 3, 3, 0, 0, 3);
        bench = onePoint(0, 0, 1000, 1000, 0);
        bench.run(1);
        checks.counts(bench, 1, 1, 0, 0, 1);
        // The place where it starts is no step, so that it has no track there.
        checks.tallies(bench, 0, 0, 0, 0, 0);
    }

    /** A particle with a budget of 1 leaks before it could collide. */
    private static void aStepOutsideTakesNothing(Checks checks) {
        CellTransport bench = onePoint(0, 0, 1000, 1000, 0);
        int start = eastWith(1);
        bench.seed(start);
        bench.run(1);
        checks.tallies(bench, 0, 0, 0, 0, 0);
        checks.counts(bench, 1, 1, 0, 0, 1);
        checks.due("state after two draws", bench.state(), Checks.stateAfter(start, 2));
    }

    /** "a BUDGET, 1 + a draw below 2000" */
    private static void theLeastAndTheMostBudget(Checks checks) {
        int[][] due = {{1, 1, 1, 1}, {2, 1, 2, 1}, {1990, 10, 199, 1}, {1991, 10, 200, 1}, {2000, 10, 200, 1},
            {1999, 1000, 2, 1}, {2000, 1000, 2, 1}, {2000, 999, 3, 1}, {2000, 9, 200, 0}};
        for (int[] row : due) {
            CellTransport bench = Checks.wholePlane(row[1], 1000, 0);
            bench.seed(eastWith(row[0]));
            bench.run(1);
            checks.tallies(bench, 0, row[2], row[3], row[3], 0);
        }
    }

    /** "If the budget is then 0 or less, it COLLIDES in the cell" */
    private static void collidesAtZeroOrLess(Checks checks) {
        int[][] due = {{1, 10, 1}, {9, 10, 1}, {10, 10, 1}, {11, 10, 2}, {20, 10, 2}, {21, 10, 3},
            {1, 1, 1}, {2, 1, 2}, {200, 1, 200}, {2000, 1000, 2}, {1000, 1000, 1}, {1001, 1000, 2}};
        for (int[] row : due) {
            CellTransport bench = Checks.wholePlane(row[1], 1000, 0);
            bench.seed(eastWith(row[0]));
            bench.run(1);
            checks.tallies(bench, 0, row[2], 1, 1, 0);
            checks.counts(bench, 1, 0, 0, 0, 1);
        }
        CellTransport bench = Checks.wholePlane(1, 1000, 0);
        bench.seed(eastWith(201));
        bench.run(1);
        checks.tallies(bench, 0, 200, 0, 0, 0);
        checks.counts(bench, 1, 0, 1, 0, 1);
    }

    private static void withoutDensityNothingCollides(Checks checks) {
        CellTransport bench = Checks.wholePlane(0, 1000, 0);
        int start = eastWith(1);
        bench.seed(start);
        bench.run(1);
        checks.tallies(bench, 0, 200, 0, 0, 0);
        checks.counts(bench, 1, 0, 1, 0, 1);
        checks.due("state after two draws", bench.state(), Checks.stateAfter(start, 2));
    }

    /** "and the cell's density is taken": that of the cell where the place then is, which has the track. */
    private static void theDensityIsThatOfTheCellEntered(Checks checks) {
        CellTransport bench = Checks.halfPlane(1, 3, 0, 0);
        Checks.everywhere(bench, 1);
        bench.token(1);
        bench.cell(1, 7, 1000, 0);
        // One step in cell 0 takes 3 and each in cell 1 takes 7, so that a budget of 18 ends with the fourth step.
        bench.seed(eastWith(18));
        bench.run(1);
        checks.tallies(bench, 0, 1, 0, 0, 0);
        checks.tallies(bench, 1, 3, 1, 1, 0);
    }

    /** The cell is one point beside the source, so what flies on after its first step leaks. */
    private static void decided(Checks checks, int r, int absorption, int fission, int absorbed, int split) {
        CellTransport bench = onePoint(1, 0, 1000, absorption, fission);
        bench.seed(eastWith(1, r));
        int flown = bench.run(1);
        checks.due("run(1) with " + r + " of " + absorption + " and " + fission, flown, 1 + 2 * split);
        checks.tallies(bench, 0, 1, 1, absorbed, split);
        checks.counts(bench, flown, absorbed == 1 ? 0 : flown - split, 0, 0, 1);
    }

    /** "if r is less than the absorption share it is ABSORBED and over" */
    private static void absorbedIfLessThanTheShare(Checks checks) {
        decided(checks, 0, 300, 400, 1, 0);
        decided(checks, 299, 300, 400, 1, 0);
        decided(checks, 300, 300, 400, 0, 1);
        decided(checks, 300, 300, 0, 0, 0);
        decided(checks, 0, 1, 0, 1, 0);
        decided(checks, 1, 1, 0, 0, 0);
        decided(checks, 0, 0, 0, 0, 0);
        decided(checks, 998, 999, 1, 1, 0);
        decided(checks, 999, 999, 0, 0, 0);
        decided(checks, 999, 1000, 0, 1, 0);
    }

    /** "else if r is less than both shares together, there is a FISSION" */
    private static void fissionIfLessThanBothShares(Checks checks) {
        decided(checks, 699, 300, 400, 0, 1);
        decided(checks, 700, 300, 400, 0, 0);
        decided(checks, 999, 300, 400, 0, 0);
        decided(checks, 0, 0, 1, 0, 1);
        decided(checks, 1, 0, 1, 0, 0);
        decided(checks, 999, 999, 1, 0, 1);
        decided(checks, 999, 0, 1000, 0, 1);
        decided(checks, 0, 0, 1000, 0, 1);
        decided(checks, 999, 0, 999, 0, 0);
    }

    /** "else it takes a new direction and then a new budget, in the same way" */
    private static void scatteringDrawsAnew(Checks checks) {
        CellTransport bench = Checks.halfPlane(5, 0, 0, 0);
        bench.surface(1, 0, 0, 1, 3);
        Checks.tokens(bench, 0, 1, 8);
        bench.cell(0, 400, 500, 0);
        // Five steps east, then north with a budget that ends at the third step there, where it is absorbed.
        int start = Checks.stateThatDraws(
            Checks.direction(EAST), Checks.budget(1601, 2000), Checks.share(500, 999),
            Checks.direction(NORTH), Checks.budget(801, 1200), Checks.share(0, 499));
        bench.seed(start);
        bench.run(1);
        checks.tallies(bench, 0, 8, 2, 1, 0);
        checks.counts(bench, 1, 0, 0, 0, 1);
        checks.due("state after six draws", bench.state(), Checks.stateAfter(start, 6));
    }

    /** "if it is not over and has made 200 steps, it is CUT and over" */
    private static void cutAfter200Steps(Checks checks) {
        for (int width = 198; width <= 201; width++) {
            CellTransport bench = Checks.halfPlane(width, 0, 1000, 0);
            bench.seed(eastWith(1));
            checks.due("run(1)", bench.run(1), 1);
            boolean leaks = width < 200;
            checks.counts(bench, 1, leaks ? 1 : 0, leaks ? 0 : 1, 0, 1);
            checks.tallies(bench, 0, Math.min(width, 200), 0, 0, 0);
        }
    }

    private static void whatEndsAtStep200IsNotCut(Checks checks) {
        CellTransport leaks = Checks.halfPlane(199, 1, 0, 0);
        leaks.seed(eastWith(200));
        leaks.run(1);
        checks.counts(leaks, 1, 1, 0, 0, 1);
        checks.tallies(leaks, 0, 199, 0, 0, 0);
        CellTransport absorbs = Checks.wholePlane(1, 1000, 0);
        absorbs.seed(eastWith(200));
        absorbs.run(1);
        checks.counts(absorbs, 1, 0, 0, 0, 1);
        checks.tallies(absorbs, 0, 200, 1, 1, 0);
        CellTransport splits = Checks.halfPlane(200, 1, 0, 1000);
        // Both twins leak with their first step.
        splits.seed(Checks.stateThatDraws(Checks.direction(EAST), Checks.budget(200), Checks.share(0, 999),
            Checks.direction(EAST), Checks.budget(1, 2000), Checks.direction(EAST)));
        checks.due("run(1)", splits.run(1), 3);
        checks.counts(splits, 3, 2, 0, 0, 1);
        checks.tallies(splits, 0, 200, 1, 0, 1);
    }

    private static void aCollisionAtStep200ComesBeforeTheCut(Checks checks) {
        CellTransport bench = Checks.wholePlane(1, 0, 0);
        int start = eastWith(200);
        bench.seed(start);
        bench.run(1);
        checks.tallies(bench, 0, 200, 1, 0, 0);
        checks.counts(bench, 1, 0, 1, 0, 1);
        checks.due("state after five draws", bench.state(), Checks.stateAfter(start, 5));
    }

    private static void scatteringDoesNotStartTheStepsAnew(Checks checks) {
        CellTransport bench = Checks.wholePlane(1000, 0, 0);
        bench.run(1);
        checks.due("tracks", bench.tally(0, 0), 200);
        checks.due("collisions", bench.tally(0, 1) >= 100 ? 1 : 0, 1);
        checks.counts(bench, 1, 0, 1, 0, 1);
        bench.run(2);
        checks.due("tracks", bench.tally(0, 0), 600);
        checks.counts(bench, 3, 0, 3, 0, 3);
    }

    private static void eachParticleHasItsOwnSteps(Checks checks) {
        CellTransport bench = Checks.wholePlane(1, 0, 1000);
        // The first splits after 150 steps; each of its twins flies 200 steps of its own.
        bench.seed(Checks.stateThatDraws(Checks.direction(EAST), Checks.budget(150), Checks.share(0, 999),
            new int[] {8, 0, 7}, Checks.budget(201, 2000), new int[] {8, 0, 7}, Checks.budget(201, 2000)));
        checks.due("run(1)", bench.run(1), 3);
        checks.tallies(bench, 0, 550, 1, 0, 1);
        checks.counts(bench, 3, 0, 2, 0, 1);
    }

    /** "two particles that are to fly from its place join the line" */
    private static void twinsFlyFromItsPlace(Checks checks) {
        CellTransport bench = onePoint(1, 0, 1000, 0, 1000);
        bench.surface(1, 1, 1, 1, 0);
        bench.surface(2, 1, 2, 0, 0);
        for (int cell = 1; cell <= 2; cell++) {
            bench.token(cell);
            bench.cell(cell, 1000, 1000, 0);
        }
        // From (1, 0) one twin flies north and one flies east, each into a cell that is one point.
        bench.seed(Checks.stateThatDraws(Checks.direction(EAST), Checks.budget(1, 1000), Checks.share(0, 999),
            Checks.direction(NORTH), Checks.budget(1, 1000), Checks.share(0, 999),
            Checks.direction(EAST), Checks.budget(1, 1000)));
        checks.due("run(1)", bench.run(1), 3);
        checks.tallies(bench, 0, 1, 1, 0, 1);
        checks.tallies(bench, 1, 1, 1, 1, 0);
        checks.tallies(bench, 2, 1, 1, 1, 0);
        checks.due("crossed(0, 1)", bench.crossed(0, 1), 1);
        checks.due("crossed(0, 2)", bench.crossed(0, 2), 1);
        checks.counts(bench, 3, 0, 0, 0, 1);
    }

    /** Of the first history that has so many fissions. */
    private static int[] flownAndLostBy(Checks checks, int fissions) {
        for (int start = 0; start < 100000; start++) {
            CellTransport bench = Checks.wholePlane(1000, 450, 550);
            bench.seed(start);
            int flown = bench.run(1);
            if (bench.tally(0, 3) == fissions) {
                checks.due("absorptions beside the fissions", bench.tally(0, 2), flown - fissions);
                return new int[] {flown, bench.count(3)};
            }
        }
        throw new IllegalStateException("no history with " + fissions + " fissions");
    }

    /** "a history has at most 12 particles in all": five fissions make 11, and the sixth makes one more. */
    private static void elevenParticlesLoseNone(Checks checks) {
        for (int fissions = 0; fissions <= 12; fissions++) {
            int[] flownAndLost = flownAndLostBy(checks, fissions);
            checks.due("flown with " + fissions + " fissions", flownAndLost[0], Math.min(12, 1 + 2 * fissions));
            checks.due("lost with " + fissions + " fissions", flownAndLost[1], Math.max(0, 2 * fissions - 11));
        }
    }

    /** "and those that would be more are LOST" */
    private static void twelveParticlesInAll(Checks checks) {
        CellTransport bench = Checks.wholePlane(1000, 0, 1000);
        checks.due("run(1)", bench.run(1), 12);
        checks.counts(bench, 12, 0, 0, 13, 1);
        checks.due("tally(0, 1)", bench.tally(0, 1), 12);
        checks.due("tally(0, 3)", bench.tally(0, 3), 12);
    }

    private static void eachHistoryHasTwelve(Checks checks) {
        CellTransport bench = Checks.wholePlane(1000, 0, 1000);
        for (int round = 1; round <= 5; round++) {
            checks.due("run(2)", bench.run(2), 24);
            checks.counts(bench, 24 * round, 0, 0, 26 * round, 2 * round);
            checks.due("tally(0, 1)", bench.tally(0, 1), 24 * round);
            checks.due("tally(0, 3)", bench.tally(0, 3), 24 * round);
        }
    }

    /**
     * "the one that came last leaves the line and flies": the cells are the points (1, 0) and (2, 0), so that every
     * track tells where a particle came from.
     */
    private static void theLastToComeFliesFirst(Checks checks) {
        CellTransport bench = new CellTransport();
        for (int cell = 0; cell < 2; cell++) {
            bench.surface(cell, 1, cell + 1, 0, 0);
            bench.token(cell);
            bench.cell(cell, 1000, 0, 1000);
        }
        int[] one = Checks.budget(1, 1000);
        int[] any = Checks.share(0, 999);
        // The first splits at (1, 0), a twin of it splits at (2, 0). The third flies east: from (2, 0) it leaks,
        // but from (1, 0) it would come to (2, 0). The fourth leaks from (2, 0), the fifth from (1, 0).
        int start = Checks.stateThatDraws(Checks.direction(EAST), one, any, Checks.direction(EAST), one, any,
            Checks.direction(EAST), one, new int[] {8, 0, WEST - 1}, one, new int[] {8, 1, 7});
        bench.seed(start);
        checks.due("run(1)", bench.run(1), 5);
        checks.tallies(bench, 0, 1, 1, 0, 1);
        checks.tallies(bench, 1, 1, 1, 0, 1);
        checks.counts(bench, 5, 3, 0, 0, 1);
        checks.due("crossed(0, 1)", bench.crossed(0, 1), 1);
        checks.due("state after twelve draws", bench.state(), Checks.stateAfter(start, 12));
    }
}
