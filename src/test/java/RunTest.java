/** Promise 10: run. */
public final class RunTest {
    public static void main(String[] args) {
        Checks checks = new Checks();
        oneAndTwoAreTaken(checks);
        outOfRangeIsRefused(checks);
        oneAfterAnother(checks);
        answersTheFewest(checks);
        answersTheMost(checks);
        answersThoseOfThisRunAlone(checks);
        checks.end();
    }

    /** "Runs n histories (1 or 2)" */
    private static void oneAndTwoAreTaken(Checks checks) {
        int[][] due = {{0, Checks.REFUSED, 0}, {1, 1, 1}, {2, 2, 2}, {3, Checks.REFUSED, 0}};
        for (int[] row : due) {
            CellTransport bench = new CellTransport();
            checks.due("run(" + row[0] + ")", bench.run(row[0]), row[1]);
            checks.due("histories of run(" + row[0] + ")", bench.count(4), row[2]);
        }
    }

    private static void outOfRangeIsRefused(Checks checks) {
        CellTransport bench = Checks.wholePlane(1000, 500, 500);
        for (int n : new int[] {0, -1, -2, 3, 4, 100, Checks.MAX, Checks.MIN}) {
            checks.due("run(" + n + ")", bench.run(n), Checks.REFUSED);
            checks.counts(bench, 0, 0, 0, 0, 0);
            checks.tallies(bench, 0, 0, 0, 0, 0);
            checks.due("state()", bench.state(), 1);
        }
    }

    /** "one after another": two in one run are as two runs of one. */
    private static void oneAfterAnother(Checks checks) {
        CellTransport once = Checks.wholePlane(300, 300, 400);
        CellTransport twice = Checks.wholePlane(300, 300, 400);
        int flown = 0;
        for (int round = 0; round < 40; round++) {
            int both = once.run(1) + once.run(1);
            checks.due("run(2)", twice.run(2), both);
            flown += both;
            checks.due("state()", twice.state(), once.state());
            checks.due("count(0)", twice.count(0), flown);
            checks.due("count(4)", twice.count(4), 2 * round + 2);
            checks.due("count(4)", once.count(4), 2 * round + 2);
        }
    }

    private static void answersTheFewest(Checks checks) {
        CellTransport bench = new CellTransport();
        checks.due("run(1) without cells", bench.run(1), 1);
        checks.due("run(2) without cells", bench.run(2), 2);
    }

    private static void answersTheMost(Checks checks) {
        CellTransport bench = Checks.wholePlane(1000, 0, 1000);
        checks.due("run(1) of fissions alone", bench.run(1), 12);
        checks.due("run(2) of fissions alone", bench.run(2), 24);
    }

    /** "answers how many particles flew in them" */
    private static void answersThoseOfThisRunAlone(Checks checks) {
        CellTransport bench = Checks.wholePlane(1000, 400, 600);
        int flown = 0;
        for (int round = 0; round < 60; round++) {
            flown += bench.run(1 + round % 2);
            checks.due("count(0)", bench.count(0), flown);
        }
        bench.undefine(0);
        checks.due("run(1) after many", bench.run(1), 1);
        bench.clear();
        checks.due("run(2) after clear", bench.run(2), 2);
        checks.due("count(0)", bench.count(0), 2);
    }
}
