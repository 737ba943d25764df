/** "An object is used for at most 512 calls after it has been made": up to the last of them all promises hold. */
public final class LifeTest {
    private static final int CALLS = 512;

    public static void main(String[] args) {
        Checks checks = new Checks();
        theLongestFlights(checks);
        theMostParticles(checks);
        theLastOfManyTokens(checks);
        theLongestSkips(checks);
        theLastRefusals(checks);
        checks.end();
    }

    /** Each particle makes all its 200 steps through cells of eight tokens, and the counts add up over all runs. */
    private static void theLongestFlights(Checks checks) {
        CellTransport bench = new CellTransport();
        int calls = 0;
        for (int cell = 0; cell < 6; cell++) {
            Checks.tokens(bench, 7, 10, 10, 10, 10, 10, 10, 10);
            bench.cell(cell, 0, 0, 0);
            calls += 9;
        }
        int histories = 0;
        while (calls < CALLS - 5) {
            checks.due("run(2)", bench.run(2), 2);
            histories += 2;
            calls++;
        }
        checks.due("tracks", bench.tally(0, 0), 200 * histories);
        checks.due("flown", bench.count(0), histories);
        checks.due("cut", bench.count(2), histories);
        checks.due("histories", bench.count(4), histories);
        checks.due("the last call", bench.state(), Checks.stateAfter(1, 2 * histories));
    }

    private static void theMostParticles(Checks checks) {
        CellTransport bench = Checks.wholePlane(1000, 0, 1000);
        int histories = 0;
        for (int calls = 3; calls < CALLS - 4; calls++) {
            checks.due("run(2)", bench.run(2), 24);
            histories += 2;
        }
        checks.due("flown", bench.count(0), 12 * histories);
        checks.due("lost", bench.count(3), 13 * histories);
        checks.due("collisions", bench.tally(0, 1), 12 * histories);
        checks.due("the last call", bench.tally(0, 3), 12 * histories);
    }

    private static void theLastOfManyTokens(Checks checks) {
        CellTransport bench = new CellTransport();
        for (int calls = 0; calls < CALLS; calls++) {
            checks.due("token(" + calls + ")", bench.token(calls % 11), calls < 8 ? calls + 1 : Checks.REFUSED);
        }
    }

    private static void theLongestSkips(Checks checks) {
        CellTransport bench = new CellTransport();
        long state = 1;
        for (int calls = 0; calls < CALLS; calls++) {
            state = Checks.stateAfter(state, 100000);
            checks.due("skip(100000)", bench.skip(100000), state);
        }
    }

    private static void theLastRefusals(Checks checks) {
        CellTransport bench = Checks.wholePlane(1000, 0, 1000);
        for (int calls = 3; calls < CALLS - 1; calls++) {
            checks.due("run(3)", bench.run(3), Checks.REFUSED);
        }
        checks.due("the last call", bench.run(2), 24);
    }
}
