/** Counts the answers that are not as due, and ends the test with exit code 1 if there was one. */
final class Checks {
    static final int REFUSED = -1;
    static final int OUTSIDE = 6;
    static final int MAX = Integer.MAX_VALUE;
    static final int MIN = Integer.MIN_VALUE;
    static final int[] STEP_X = {1, 1, 0, -1, -1, -1, 0, 1};
    static final int[] STEP_Y = {0, 1, 1, 1, 0, -1, -1, -1};

    private int asked = 0;
    private int wrong = 0;

    void due(String call, long got, long want) {
        asked++;
        if (got != want) {
            wrong++;
            System.out.println(call + " answered " + got + ", due is " + want);
        }
    }

    /** The counts 0 to 4. */
    void counts(CellTransport bench, int flown, int leaked, int cut, int lost, int histories) {
        int[] want = {flown, leaked, cut, lost, histories};
        for (int what = 0; what < want.length; what++) {
            due("count(" + what + ")", bench.count(what), want[what]);
        }
    }

    /** Tracks, collisions, absorptions and fissions of one cell. */
    void tallies(CellTransport bench, int cell, int... want) {
        for (int what = 0; what < 4; what++) {
            due("tally(" + cell + ", " + what + ")", bench.tally(cell, what), want[what]);
        }
    }

    /** Tallies, crossings and the counts 0 to 4. */
    void allCountsAreZero(CellTransport bench) {
        counts(bench, 0, 0, 0, 0, 0);
        for (int cell = 0; cell < 6; cell++) {
            tallies(bench, cell, 0, 0, 0, 0);
            for (int to = 0; to < 6; to++) {
                due("crossed(" + cell + ", " + to + ")", bench.crossed(cell, to), 0);
            }
        }
    }

    void end() {
        System.out.println(asked + " answers, " + wrong + " not as due");
        if (wrong != 0 || asked == 0) {
            System.exit(1);
        }
    }

    static void tokens(CellTransport bench, int... values) {
        for (int value : values) {
            bench.token(value);
        }
    }

    /** A plane that holds every point. */
    static void everywhere(CellTransport bench, int surface) {
        bench.surface(surface, 0, 0, 0, 0);
    }

    /** A bench whose cell 0 is the whole plane. */
    static CellTransport wholePlane(int density, int absorption, int fission) {
        CellTransport bench = new CellTransport();
        everywhere(bench, 0);
        bench.token(0);
        bench.cell(0, density, absorption, fission);
        return bench;
    }

    /** A bench whose cell 0 is the points with x at most the width. */
    static CellTransport halfPlane(int width, int density, int absorption, int fission) {
        CellTransport bench = new CellTransport();
        bench.surface(0, 0, 1, 0, width);
        bench.token(0);
        bench.cell(0, density, absorption, fission);
        return bench;
    }

    static long next(long state) {
        return (state * 1103515245L + 12345L) % 2147483648L;
    }

    static long stateAfter(long state, int draws) {
        for (int draw = 0; draw < draws; draw++) {
            state = next(state);
        }
        return state;
    }

    /** The least state whose next draws are as told by the rows: below what, the least and the most it may be. */
    static int stateThatDraws(int[]... draws) {
        for (int start = 0; start < 100000000; start++) {
            if (draws(start, draws)) {
                return start;
            }
        }
        throw new IllegalStateException("no such state");
    }

    private static boolean draws(int start, int[][] draws) {
        long state = start;
        for (int[] row : draws) {
            state = next(state);
            long draw = state / 256 % row[0];
            if (draw < row[1] || draw > row[2]) {
                return false;
            }
        }
        return true;
    }

    static int[] direction(int direction) {
        return new int[] {8, direction, direction};
    }

    static int[] budget(int budget) {
        return budget(budget, budget);
    }

    static int[] budget(int least, int most) {
        return new int[] {2000, least - 1, most - 1};
    }

    static int[] share(int least, int most) {
        return new int[] {1000, least, most};
    }
}
