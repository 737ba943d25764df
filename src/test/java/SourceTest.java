import java.util.Arrays;

/** Promise 6: source. */
public final class SourceTest {
    public static void main(String[] args) {
        Checks checks = new Checks();
        lastPlacesAreTaken(checks);
        particlesStartThere(checks);
        theLastOneSetCounts(checks);
        outOfRangeIsRefused(checks);
        checks.end();
    }

    /** "Sets the source, -300 .. 300 both: 0." */
    private static void lastPlacesAreTaken(Checks checks) {
        int[][] due = {{-300, 0, 0}, {300, 0, 0}, {0, -300, 0}, {0, 300, 0},
            {-301, 0, -1}, {301, 0, -1}, {0, -301, -1}, {0, 301, -1}};
        for (int[] row : due) {
            CellTransport bench = new CellTransport();
            checks.due("source(" + row[0] + ", " + row[1] + ")", bench.source(row[0], row[1]), row[2]);
            boolean taken = row[2] == 0;
            checks.due("tracks", tracksOneStepFrom(bench, taken ? row[0] : 0, taken ? row[1] : 0, 6), 1);
        }
    }

    private static void particlesStartThere(Checks checks) {
        int[][] sources = {{-300, -300}, {300, 300}, {-300, 300}, {300, -300}, {0, 0}, {17, -4}};
        for (int[] source : sources) {
            for (int direction = 0; direction < 8; direction++) {
                CellTransport bench = new CellTransport();
                checks.due("source", bench.source(source[0], source[1]), 0);
                checks.due("tracks", tracksOneStepFrom(bench, source[0], source[1], direction), 1);
            }
        }
    }

    /** Only a particle that starts at the point comes to where the cell is told to be. */
    private static int tracksOneStepFrom(CellTransport bench, int x, int y, int direction) {
        int dx = Checks.STEP_X[direction];
        int dy = Checks.STEP_Y[direction];
        // A disc's centre ends at 300, so the point beyond it is cut out by planes.
        bench.surface(0, 0, 1, 0, x + dx);
        bench.surface(1, 0, -1, 0, -x - dx);
        bench.surface(2, 0, 0, 1, y + dy);
        bench.surface(3, 0, 0, -1, -y - dy);
        Checks.tokens(bench, 0, 1, 2, 3, 8, 8, 8);
        bench.cell(0, 1, 0, 0);
        bench.seed(Checks.stateThatDraws(Checks.direction(direction), Checks.budget(2000)));
        bench.clear();
        bench.run(1);
        return bench.tally(0, 0);
    }

    private static void theLastOneSetCounts(Checks checks) {
        CellTransport bench = new CellTransport();
        checks.due("source", bench.source(300, 300), 0);
        checks.due("source again", bench.source(-5, 6), 0);
        checks.due("source as it is", bench.source(-5, 6), 0);
        for (int round = 0; round < 3; round++) {
            checks.due("tracks of each history", tracksOneStepFrom(bench, -5, 6, 1), 1);
        }
    }

    private static void outOfRangeIsRefused(Checks checks) {
        int[][] wrong = {{301, 0}, {-301, 0}, {0, 301}, {0, -301}, {Checks.MAX, 0}, {Checks.MIN, 0},
            {0, Checks.MAX}, {0, Checks.MIN}, {301, 301}, {-301, -301}};
        for (int[] row : wrong) {
            CellTransport bench = new CellTransport();
            bench.source(20, -30);
            checks.due("source" + Arrays.toString(row), bench.source(row[0], row[1]), Checks.REFUSED);
            checks.due("the source stays", tracksOneStepFrom(bench, 20, -30, 3), 1);
        }
    }
}
