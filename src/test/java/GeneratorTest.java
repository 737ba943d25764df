/** Promises 7, 8 and 9: seed, skip and state. Of the terms: the generator. */
public final class GeneratorTest {
    public static void main(String[] args) {
        Checks checks = new Checks();
        theStateIsOneAtFirst(checks);
        seedTakesTheRemainder(checks);
        seedCountsFromAnyState(checks);
        theStateWrapsAround(checks);
        theDrawIsRoundedDown(checks);
        skipEndsAtItsLastNumbers(checks);
        skipOfNothingChangesNothing(checks);
        skipDrawsOneByOne(checks);
        skipAddsUp(checks);
        outOfRangeIsRefused(checks);
        stateChangesNothing(checks);
        onlyDrawsChangeTheState(checks);
        checks.end();
    }

    private static final int[] SEEDS = {0, 1, 2, 5, 255, 256, 12345, 1103515245, 2147483646, 2147483647,
        -1, -2, -5, -12345, -2147483647, -2147483648};

    /** "a state 0 .. 2147483647, 1 at first" */
    private static void theStateIsOneAtFirst(Checks checks) {
        checks.due("state() of a new object", new CellTransport().state(), 1);
        checks.due("skip(0) of a new object", new CellTransport().skip(0), 1);
    }

    /** "the remainder of the value by 2147483648, 0 .. 2147483647" */
    private static void seedTakesTheRemainder(Checks checks) {
        CellTransport bench = new CellTransport();
        int[][] due = {{0, 0}, {1, 1}, {2147483646, 2147483646}, {2147483647, 2147483647},
            {-1, 2147483647}, {-2, 2147483646}, {-2147483647, 1}, {-2147483648, 0}};
        for (int[] row : due) {
            bench.seed(row[0]);
            checks.due("state after seed(" + row[0] + ")", bench.state(), row[1]);
        }
        for (int value : SEEDS) {
            bench.seed(value);
            checks.due("state after seed(" + value + ")", bench.state(), Math.floorMod((long) value, 2147483648L));
        }
    }

    private static void seedCountsFromAnyState(Checks checks) {
        CellTransport bench = Checks.wholePlane(1000, 300, 300);
        bench.run(2);
        bench.seed(-1);
        checks.due("state after seed(-1)", bench.state(), 2147483647);
        bench.skip(100000);
        bench.seed(Checks.MIN);
        checks.due("state after seed of the least int", bench.state(), 0);
    }

    /** "the state s becomes (s * 1103515245 + 12345) mod 2147483648": each start is worked out by hand. */
    private static void theStateWrapsAround(Checks checks) {
        long[][] due = {{0, 12345}, {1, 1103527590}, {2, 59559187}, {2147483647, 1043980748}, {1073741824, 1073754169}};
        CellTransport bench = new CellTransport();
        for (long[] row : due) {
            bench.seed((int) row[0]);
            checks.due("skip(1) from " + row[0], bench.skip(1), row[1]);
        }
        bench.seed(stateBefore(2147483647));
        checks.due("the step to the greatest state", bench.skip(1), 2147483647);
        bench.seed(stateBefore(0));
        checks.due("the step to the least state", bench.skip(1), 0);
        checks.due("the step from the least state", bench.skip(1), 12345);
    }

    /** The state that one draw turns into the one told, by the inverse of the factor mod 2147483648. */
    private static int stateBefore(int state) {
        long inverse = 1;
        // Each round makes the inverse right for twice as many bits.
        for (int round = 0; round < 5; round++) {
            inverse = Math.floorMod(inverse * (2 - Math.floorMod(1103515245L * inverse, 2147483648L)), 2147483648L);
        }
        return (int) Math.floorMod((state - 12345L) * inverse, 2147483648L);
    }

    /** "the draw is (s / 256, rounded down) mod k of the new state": the first draw, below 8, is the direction. */
    private static void theDrawIsRoundedDown(Checks checks) {
        int[][] due = {{255, 0}, {256, 1}, {511, 1}, {512, 2}, {2047, 7}, {2048, 0}, {2303, 0}, {2304, 1},
            {2147483647, 7}, {0, 0}};
        for (int[] row : due) {
            CellTransport bench = new CellTransport();
            bench.surface(0, 1, Checks.STEP_X[row[1]], Checks.STEP_Y[row[1]], 0);
            bench.token(0);
            bench.cell(0, 0, 0, 0);
            bench.seed(stateBefore(row[0]));
            bench.run(1);
            checks.due("a track in direction " + row[1] + " by state " + row[0], bench.tally(0, 0), 1);
        }
    }

    /** "n 0 .. 100000; answers the state" */
    private static void skipEndsAtItsLastNumbers(Checks checks) {
        int[][] due = {{-1, 0}, {0, 1}, {1, 1}, {99999, 1}, {100000, 1}, {100001, 0}};
        for (int[] row : due) {
            CellTransport bench = new CellTransport();
            bench.seed(-1);
            boolean taken = row[1] == 1;
            long after = taken ? Checks.stateAfter(2147483647L, row[0]) : 2147483647L;
            checks.due("skip(" + row[0] + ")", bench.skip(row[0]), taken ? after : Checks.REFUSED);
            checks.due("state() after skip(" + row[0] + ")", bench.state(), after);
        }
    }

    private static void skipOfNothingChangesNothing(Checks checks) {
        CellTransport bench = new CellTransport();
        for (int value : new int[] {0, 1, 2147483647, 77}) {
            bench.seed(value);
            checks.due("skip(0)", bench.skip(0), value);
            checks.due("state()", bench.state(), value);
        }
    }

    /** "Changes the state as n draws would" */
    private static void skipDrawsOneByOne(Checks checks) {
        for (int value : SEEDS) {
            CellTransport bench = new CellTransport();
            long state = Math.floorMod((long) value, 2147483648L);
            for (int n = 0; n <= 100000; n++) {
                if (n < 70 || (n & n - 1) == 0 || n % 9973 == 0 || n > 99997) {
                    bench.seed(value);
                    checks.due("skip(" + n + ")", bench.skip(n), state);
                    checks.due("state()", bench.state(), state);
                }
                state = Checks.next(state);
            }
        }
    }

    private static void skipAddsUp(Checks checks) {
        CellTransport bench = new CellTransport();
        long state = 1;
        for (int n = 0; n < 300; n++) {
            state = Checks.stateAfter(state, n);
            checks.due("skip(" + n + ")", bench.skip(n), state);
        }
    }

    private static void outOfRangeIsRefused(Checks checks) {
        CellTransport bench = new CellTransport();
        bench.seed(77);
        for (int n : new int[] {-1, -2, 100001, 131072, Checks.MAX, Checks.MIN}) {
            checks.due("skip(" + n + ")", bench.skip(n), Checks.REFUSED);
            checks.due("state()", bench.state(), 77);
        }
    }

    private static void stateChangesNothing(Checks checks) {
        CellTransport bench = new CellTransport();
        checks.due("state()", bench.state(), 1);
        checks.due("state() again", bench.state(), 1);
        checks.due("skip(1)", bench.skip(1), 1103527590);
        checks.due("state()", bench.state(), 1103527590);
    }

    private static void onlyDrawsChangeTheState(Checks checks) {
        CellTransport bench = Checks.wholePlane(0, 0, 0);
        bench.source(1, 1);
        bench.where(0, 0);
        bench.reach(0, 0, 0);
        bench.undefine(3);
        bench.clear();
        bench.run(0);
        bench.run(3);
        checks.due("state()", bench.state(), 1);
        bench.run(1);
        checks.due("state after a flight without collisions", bench.state(), Checks.stateAfter(1, 2));
    }
}
