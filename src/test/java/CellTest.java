/** Promises 4 and 5: cell and undefine, and the regions that tokens tell. */
public final class CellTest {
    public static void main(String[] args) {
        Checks checks = new Checks();
        answersWhetherItWasDefined(checks);
        outOfRangeKeepsTheBuffer(checks);
        edgesAreTaken(checks);
        noRegionEmptiesTheBuffer(checks);
        aFailedCellStaysAsBefore(checks);
        aCellDefinedAgainIsNew(checks);
        operatorsHoldTheirPoints(checks);
        eightTokensTellARegion(checks);
        theLeastNumberHasThePoint(checks);
        undefineAnswers(checks);
        countsStayWhenUndefined(checks);
        checks.end();
    }

    private static void answersWhetherItWasDefined(Checks checks) {
        CellTransport bench = new CellTransport();
        for (int number = 0; number < 6; number++) {
            bench.token(0);
            checks.due("cell first", bench.cell(number, 0, 0, 0), 0);
            checks.due("count(5)", bench.count(5), 0);
            checks.due("count(6)", bench.count(6), number + 1);
            bench.token(0);
            checks.due("cell again", bench.cell(number, 0, 0, 0), 1);
            checks.due("count(6)", bench.count(6), number + 1);
        }
    }

    private static void outOfRangeKeepsTheBuffer(Checks checks) {
        int max = Integer.MAX_VALUE;
        int min = Integer.MIN_VALUE;
        int[][] wrong = {
            {-1, 0, 0, 0}, {6, 0, 0, 0}, {max, 0, 0, 0}, {min, 0, 0, 0},
            {0, -1, 0, 0}, {0, 1001, 0, 0}, {0, max, 0, 0}, {0, min, 0, 0},
            {0, 0, -1, 0}, {0, 0, 1001, 0}, {0, 0, 0, -1}, {0, 0, 0, 1001}, {0, 0, 1, 1000}, {0, 0, 500, 501},
            {0, 0, -1, 1001}, {0, 0, 1001, -1}, {0, 0, max, max}, {0, 0, max, 1}, {0, 0, 1, max}, {0, 0, min, min},
            {0, 0, min, max}, {0, 0, max, min}};
        CellTransport bench = new CellTransport();
        Checks.everywhere(bench, 0);
        bench.token(0);
        for (int[] row : wrong) {
            checks.due("cell" + java.util.Arrays.toString(row),
                bench.cell(row[0], row[1], row[2], row[3]), Checks.REFUSED);
            checks.due("count(5)", bench.count(5), 1);
            checks.due("count(6)", bench.count(6), 0);
        }
        checks.due("cell after refusals", bench.cell(0, 0, 0, 0), 0);
        checks.due("where", bench.where(0, 0), 0);
        checks.due("out of range with an empty buffer", bench.cell(0, 0, 0, 1001), Checks.REFUSED);
    }

    private static void edgesAreTaken(Checks checks) {
        CellTransport bench = new CellTransport();
        int[][] taken = {{5, 1000, 1000, 0}, {5, 1000, 0, 1000}, {5, 0, 999, 1}, {5, 1, 0, 0}, {5, 0, 500, 500}};
        bench.token(0);
        bench.cell(5, 0, 0, 0);
        for (int[] row : taken) {
            bench.token(0);
            checks.due("cell at an edge", bench.cell(row[0], row[1], row[2], row[3]), 1);
        }
    }

    private static final int[][] NO_REGION = {
        {}, {8}, {9}, {10}, {0, 1}, {0, 8}, {0, 9}, {8, 0, 1}, {0, 8, 1}, {10, 0}, {0, 10, 1}, {0, 1, 2, 8},
        {0, 1, 8, 8}, {0, 8, 1, 2}, {9, 0, 1, 2}, {0, 1, 2, 3, 4, 5, 6, 7}, {0, 1, 2, 3, 4, 8, 8, 8},
        {0, 10, 9, 1, 2}, {10, 0, 1, 8}};

    private static void noRegionEmptiesTheBuffer(Checks checks) {
        CellTransport bench = new CellTransport();
        for (int[] tokens : NO_REGION) {
            Checks.tokens(bench, tokens);
            checks.due("cell of " + java.util.Arrays.toString(tokens), bench.cell(0, 0, 0, 0), Checks.REFUSED);
            checks.due("count(5)", bench.count(5), 0);
            checks.due("count(6)", bench.count(6), 0);
            checks.due("undefine(0)", bench.undefine(0), 0);
        }
    }

    private static void aFailedCellStaysAsBefore(Checks checks) {
        CellTransport bench = Checks.wholePlane(1000, 1000, 0);
        for (int[] tokens : NO_REGION) {
            Checks.tokens(bench, tokens);
            bench.cell(0, 0, 0, 1000);
            checks.due("where", bench.where(9, 9), 0);
            checks.due("count(6)", bench.count(6), 1);
            bench.clear();
            bench.run(1);
            checks.due("absorptions", bench.tally(0, 2), 1);
            checks.due("fissions", bench.tally(0, 3), 0);
        }
    }

    private static void aCellDefinedAgainIsNew(Checks checks) {
        CellTransport bench = Checks.wholePlane(1000, 1000, 0);
        bench.surface(1, 1, 0, 0, 300);
        bench.token(1);
        checks.due("cell again", bench.cell(0, 0, 0, 1000), 1);
        checks.due("the new region", bench.where(301, 0), Checks.OUTSIDE);
        bench.run(2);
        checks.due("no collisions with the new density", bench.tally(0, 1), 0);
        bench.token(1);
        bench.cell(0, 1000, 0, 1000);
        bench.run(1);
        checks.due("no absorptions with the new shares", bench.tally(0, 2), 0);
        checks.due("fissions with the new shares", bench.tally(0, 3), 12);
    }

    /** Surface 0 holds x at most 0, surface 1 holds y at most 0, surface 2 holds x + y at most 1. */
    private static void threePlanes(CellTransport bench) {
        bench.surface(0, 0, 1, 0, 0);
        bench.surface(1, 0, 0, 1, 0);
        bench.surface(2, 0, 1, 1, 1);
    }

    private static void operatorsHoldTheirPoints(Checks checks) {
        CellTransport bench = new CellTransport();
        threePlanes(bench);
        int[][] regions = {{0, 1, 8}, {0, 1, 9}, {0, 10}, {0, 10, 1, 8}, {0, 1, 10, 8}, {0, 1, 8, 10},
            {0, 1, 9, 10}, {0, 1, 2, 8, 9}, {0, 1, 9, 2, 8}, {0, 1, 8, 2, 9}, {0, 1, 2, 9, 8}, {0, 0, 10, 9}};
        for (int form = 0; form < regions.length; form++) {
            Checks.tokens(bench, regions[form]);
            bench.cell(4, 0, 0, 0);
            for (int x = -3; x <= 3; x++) {
                for (int y = -3; y <= 3; y++) {
                    boolean held = isHeld(form, x <= 0, y <= 0, x + y <= 1);
                    checks.due("where in region " + form, bench.where(x, y), held ? 4 : Checks.OUTSIDE);
                }
            }
        }
    }

    private static boolean isHeld(int form, boolean a, boolean b, boolean c) {
        switch (form) {
            case 0: return a && b;
            case 1: return a || b;
            case 2: return !a;
            case 3: return !a && b;
            case 4: return a && !b;
            case 5: return !(a && b);
            case 6: return !(a || b);
            case 7: return a || (b && c);
            case 8: return (a || b) && c;
            case 9: return (a && b) || c;
            case 10: return a && (b || c);
            default: return true;
        }
    }

    private static void eightTokensTellARegion(Checks checks) {
        CellTransport bench = new CellTransport();
        threePlanes(bench);
        bench.surface(3, 1, 0, 0, 2);
        Checks.tokens(bench, 0, 1, 2, 3, 8, 8, 9, 10);
        checks.due("cell of eight tokens", bench.cell(1, 0, 0, 0), 0);
        for (int x = -3; x <= 3; x++) {
            for (int y = -3; y <= 3; y++) {
                boolean held = !(x <= 0 || (y <= 0 && x + y <= 1 && x * x + y * y <= 4));
                checks.due("where(" + x + ", " + y + ")", bench.where(x, y), held ? 1 : Checks.OUTSIDE);
            }
        }
    }

    private static void theLeastNumberHasThePoint(Checks checks) {
        CellTransport bench = new CellTransport();
        Checks.everywhere(bench, 0);
        for (int number = 5; number >= 0; number--) {
            bench.token(0);
            bench.cell(number, 0, 0, 0);
            checks.due("where", bench.where(0, 0), number);
        }
        for (int number = 0; number < 6; number++) {
            bench.undefine(number);
            checks.due("where", bench.where(0, 0), number + 1);
        }
    }

    private static void undefineAnswers(Checks checks) {
        CellTransport bench = new CellTransport();
        for (int number = 0; number < 6; number++) {
            bench.token(number);
            bench.cell(number, 0, 0, 0);
        }
        for (int number : new int[] {-1, 6, 7, Integer.MAX_VALUE, Integer.MIN_VALUE}) {
            checks.due("undefine(" + number + ")", bench.undefine(number), Checks.REFUSED);
            checks.due("count(6)", bench.count(6), 6);
        }
        for (int number = 0; number < 6; number++) {
            bench.token(1);
            checks.due("undefine", bench.undefine(number), 1);
            checks.due("count(6)", bench.count(6), 5);
            checks.due("undefine again", bench.undefine(number), 0);
            checks.due("the buffer stays", bench.count(5), 1);
            checks.due("cell after undefine", bench.cell(number, 0, 0, 0), 0);
        }
    }

    private static void countsStayWhenUndefined(Checks checks) {
        CellTransport bench = Checks.wholePlane(1000, 1000, 0);
        bench.run(2);
        int tracks = bench.tally(0, 0);
        bench.undefine(0);
        checks.due("tracks stay", bench.tally(0, 0), tracks);
        checks.due("collisions stay", bench.tally(0, 1), 2);
        checks.due("absorptions stay", bench.tally(0, 2), 2);
        bench.token(0);
        bench.cell(0, 1000, 1000, 0);
        checks.due("collisions stay when defined anew", bench.tally(0, 1), 2);
    }
}
