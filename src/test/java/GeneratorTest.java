/** Promises 7, 8 and 9: seed, skip and state. */
public final class GeneratorTest {
    public static void main(String[] args) {
        Checks checks = new Checks();
        seedTakesTheRemainder(checks);
        skipDrawsOneByOne(checks);
        skipAddsUp(checks);
        outOfRangeIsRefused(checks);
        stateChangesNothing(checks);
        onlyDrawsChangeTheState(checks);
        checks.end();
    }

    private static final int[] SEEDS = {0, 1, 2, 5, 255, 256, 12345, 1103515245, 2147483646, 2147483647,
        -1, -2, -5, -12345, -2147483647, -2147483648};

    private static void seedTakesTheRemainder(Checks checks) {
        CellTransport bench = new CellTransport();
        for (int value : SEEDS) {
            bench.seed(value);
            checks.due("state after seed(" + value + ")", bench.state(), Math.floorMod((long) value, 2147483648L));
        }
    }

    private static void skipDrawsOneByOne(Checks checks) {
        for (int value : SEEDS) {
            CellTransport bench = new CellTransport();
            long state = Math.floorMod((long) value, 2147483648L);
            for (int n = 0; n <= 100000; n++) {
                if (n < 70 || (n & n - 1) == 0 || n % 9973 == 0 || n > 99997) {
                    bench.seed(value);
                    checks.due("skip(" + n + ")", bench.skip(n), state);
                    checks.due("state()", bench.state(), state);
                }
                state = Checks.next(state);
            }
        }
    }

    private static void skipAddsUp(Checks checks) {
        CellTransport bench = new CellTransport();
        long state = 1;
        for (int n = 0; n < 300; n++) {
            for (int draw = 0; draw < n; draw++) {
                state = Checks.next(state);
            }
            checks.due("skip(" + n + ")", bench.skip(n), state);
        }
    }

    private static void outOfRangeIsRefused(Checks checks) {
        CellTransport bench = new CellTransport();
        bench.seed(77);
        for (int n : new int[] {-1, -2, 100001, 131072, Integer.MAX_VALUE, Integer.MIN_VALUE}) {
            checks.due("skip(" + n + ")", bench.skip(n), Checks.REFUSED);
            checks.due("state()", bench.state(), 77);
        }
    }

    private static void stateChangesNothing(Checks checks) {
        CellTransport bench = new CellTransport();
        checks.due("state()", bench.state(), 1);
        checks.due("state() again", bench.state(), 1);
        checks.due("skip(1)", bench.skip(1), 1103527590);
        checks.due("state()", bench.state(), 1103527590);
    }

    private static void onlyDrawsChangeTheState(Checks checks) {
        CellTransport bench = Checks.wholePlane(0, 0, 0);
        bench.source(1, 1);
        bench.where(0, 0);
        bench.reach(0, 0, 0);
        bench.undefine(3);
        bench.clear();
        bench.run(0);
        bench.run(3);
        checks.due("state()", bench.state(), 1);
        bench.run(1);
        checks.due("state after a flight without collisions", bench.state(), Checks.next(Checks.next(1)));
    }
}
