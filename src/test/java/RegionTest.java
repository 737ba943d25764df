import java.util.ArrayList;
import java.util.Arrays;
import java.util.List;

/** Of the terms: regions, and the cell that a point is in. */
public final class RegionTest {
    public static void main(String[] args) {
        Checks checks = new Checks();
        anEmptyBufferTellsNone(checks);
        anOperatorLacksAnOperand(checks);
        exactlyOneIsLeft(checks);
        everyShortRowTellsOneOrNone(checks);
        oneToEightTokensTellARegion(checks);
        operatorsHoldTheirPoints(checks);
        eightTokensHoldTheirPoints(checks);
        theRegionIsTheCellsOwn(checks);
        theLeastNumberHasThePoint(checks);
        onlyDefinedCellsHavePoints(checks);
        checks.end();
    }

    private static void told(Checks checks, boolean isTold, int... tokens) {
        CellTransport bench = new CellTransport();
        Checks.tokens(bench, tokens);
        checks.due("cell of " + Arrays.toString(tokens), bench.cell(0, 0, 0, 0), isTold ? 0 : Checks.REFUSED);
        checks.due("count(6) after " + Arrays.toString(tokens), bench.count(6), isTold ? 1 : 0);
        checks.due("count(5) after " + Arrays.toString(tokens), bench.count(5), 0);
    }

    /** "The token buffer has 0 to 8 tokens and tells a region if exactly one is left": of no tokens none is left. */
    private static void anEmptyBufferTellsNone(Checks checks) {
        told(checks, false);
        CellTransport bench = Checks.wholePlane(0, 0, 0);
        checks.due("cell of a buffer just emptied", bench.cell(0, 0, 0, 0), Checks.REFUSED);
        checks.due("the cell is as before", bench.where(0, 0), 0);
    }

    /** "and none lacked an operand" */
    private static void anOperatorLacksAnOperand(Checks checks) {
        for (int operator = 8; operator <= 10; operator++) {
            told(checks, false, operator);
            // One operand is enough for NOT alone; two are enough for all, but NOT leaves both.
            told(checks, operator == 10, 0, operator);
            told(checks, operator != 10, 0, 1, operator);
            // What comes later does not make up for what was lacking.
            told(checks, false, operator, 0);
            told(checks, false, operator, 0, 1);
            told(checks, false, operator, 0, 1, 2);
        }
        told(checks, false, 0, 8, 1);
        told(checks, false, 0, 9, 1);
        told(checks, false, 0, 8, 1, 2, 8);
        told(checks, false, 0, 1, 8, 8);
        told(checks, false, 0, 1, 9, 9, 2);
        told(checks, false, 0, 10, 8, 1);
        told(checks, false, 10, 0, 1, 8);
        told(checks, false, 0, 1, 2, 3, 8, 8, 8, 8);
    }

    /** "if exactly one is left when all tokens are gone through" */
    private static void exactlyOneIsLeft(Checks checks) {
        for (int surface = 0; surface < 8; surface++) {
            told(checks, true, surface);
        }
        told(checks, false, 0, 0);
        told(checks, false, 0, 1);
        told(checks, false, 0, 1, 10);
        told(checks, false, 0, 10, 1);
        told(checks, false, 0, 1, 2, 8);
        told(checks, false, 0, 1, 8, 2);
        told(checks, false, 0, 1, 2, 3, 4, 8, 8, 8);
        told(checks, false, 0, 1, 2, 3, 4, 5, 6, 7);
        told(checks, true, 0, 1, 2, 3, 8, 8, 8);
    }

    /** All rows of up to five tokens out of 1, AND, OR and NOT, each judged as the document judges it. */
    private static void everyShortRowTellsOneOrNone(Checks checks) {
        int[] kinds = {1, 8, 9, 10};
        int rows = 1;
        for (int size = 0; size <= 5; size++) {
            for (int row = 0; row < rows; row++) {
                int[] tokens = new int[size];
                for (int i = 0, rest = row; i < size; i++, rest /= kinds.length) {
                    tokens[i] = kinds[rest % kinds.length];
                }
                told(checks, tellsARegion(tokens), tokens);
            }
            rows *= kinds.length;
        }
    }

    private static boolean tellsARegion(int[] tokens) {
        List<Integer> left = new ArrayList<>();
        for (int token : tokens) {
            for (int operand = 0; operand < (token < 8 ? 0 : token == 10 ? 1 : 2); operand++) {
                if (left.isEmpty()) {
                    return false;
                }
                left.remove(left.size() - 1);
            }
            left.add(token);
        }
        return left.size() == 1;
    }

    private static void oneToEightTokensTellARegion(Checks checks) {
        for (int size = 1; size <= 8; size++) {
            CellTransport bench = new CellTransport();
            Checks.everywhere(bench, 7);
            int[] tokens = new int[size];
            Arrays.fill(tokens, 10);
            tokens[0] = 7;
            Checks.tokens(bench, tokens);
            checks.due("cell of " + size + " tokens", bench.cell(5, 0, 0, 0), 0);
            checks.due("where of " + (size - 1) + " times not", bench.where(0, 0), size % 2 == 1 ? 5 : Checks.OUTSIDE);
        }
    }

    /** Surface 0 holds x at most 0, surface 1 holds y at most 0, surface 2 holds x + y at most 1. */
    private static void threePlanes(CellTransport bench) {
        bench.surface(0, 0, 1, 0, 0);
        bench.surface(1, 0, 0, 1, 0);
        bench.surface(2, 0, 1, 1, 1);
    }

    /** "8 AND, of the two regions before: the points in both; 9 OR: in at least one of them; 10 NOT: [..] not in" */
    private static void operatorsHoldTheirPoints(Checks checks) {
        int[][] regions = {{0, 1, 8}, {0, 1, 9}, {0, 10}, {0, 10, 1, 8}, {0, 1, 10, 8}, {0, 1, 8, 10},
            {0, 1, 9, 10}, {0, 1, 2, 8, 9}, {0, 1, 9, 2, 8}, {0, 1, 8, 2, 9}, {0, 1, 2, 9, 8}, {0, 0, 10, 9}};
        for (int form = 0; form < regions.length; form++) {
            CellTransport bench = new CellTransport();
            threePlanes(bench);
            Checks.tokens(bench, regions[form]);
            bench.cell(4, 0, 0, 0);
            for (int x = -3; x <= 3; x++) {
                for (int y = -3; y <= 3; y++) {
                    boolean held = isHeld(form, x <= 0, y <= 0, x + y <= 1);
                    checks.due("where in region " + form, bench.where(x, y), held ? 4 : Checks.OUTSIDE);
                }
            }
        }
    }

    private static boolean isHeld(int form, boolean a, boolean b, boolean c) {
        switch (form) {
            case 0: return a && b;
            case 1: return a || b;
            case 2: return !a;
            case 3: return !a && b;
            case 4: return a && !b;
            case 5: return !(a && b);
            case 6: return !(a || b);
            case 7: return a || (b && c);
            case 8: return (a || b) && c;
            case 9: return (a && b) || c;
            case 10: return a && (b || c);
            default: return true;
        }
    }

    private static void eightTokensHoldTheirPoints(Checks checks) {
        CellTransport bench = new CellTransport();
        threePlanes(bench);
        bench.surface(3, 1, 0, 0, 2);
        Checks.tokens(bench, 0, 1, 2, 3, 8, 8, 9, 10);
        checks.due("cell of eight tokens", bench.cell(1, 0, 0, 0), 0);
        for (int x = -3; x <= 3; x++) {
            for (int y = -3; y <= 3; y++) {
                boolean held = !(x <= 0 || (y <= 0 && x + y <= 1 && x * x + y * y <= 4));
                checks.due("where(" + x + ", " + y + ")", bench.where(x, y), held ? 1 : Checks.OUTSIDE);
            }
        }
    }

    /** Tokens that come after a cell was defined are not its own. */
    private static void theRegionIsTheCellsOwn(Checks checks) {
        CellTransport bench = Checks.wholePlane(0, 0, 0);
        Checks.tokens(bench, 5, 5, 8, 10, 10, 10, 10, 10);
        checks.due("where while the buffer fills", bench.where(0, 0), 0);
        checks.due("cell of the new tokens", bench.cell(1, 0, 0, 0), 0);
        checks.due("where after another cell", bench.where(0, 0), 0);
        bench.undefine(0);
        checks.due("where in the other cell", bench.where(0, 0), 1);
    }

    /** "the defined cell with the least number whose region holds it" */
    private static void theLeastNumberHasThePoint(Checks checks) {
        CellTransport bench = new CellTransport();
        Checks.everywhere(bench, 0);
        for (int number = 5; number >= 0; number--) {
            bench.token(0);
            bench.cell(number, 0, 0, 0);
            checks.due("where", bench.where(0, 0), number);
        }
        for (int number = 0; number < 5; number++) {
            // Surface 7 was never set, so this cell is defined but holds none.
            bench.token(7);
            bench.cell(number, 0, 0, 0);
            checks.due("where", bench.where(0, 0), number + 1);
        }
        for (int number = 0; number < 6; number++) {
            bench.token(0);
            bench.cell(number, 0, 0, 0);
        }
        for (int number = 0; number < 6; number++) {
            bench.undefine(number);
            checks.due("where", bench.where(0, 0), number == 5 ? Checks.OUTSIDE : number + 1);
        }
    }

    /** "CELLS 0 .. 5 are defined or not (at first)"; "if there is none it is OUTSIDE" */
    private static void onlyDefinedCellsHavePoints(Checks checks) {
        CellTransport bench = new CellTransport();
        Checks.everywhere(bench, 0);
        checks.due("where without cells", bench.where(0, 0), Checks.OUTSIDE);
        bench.token(0);
        checks.due("where with a token alone", bench.where(0, 0), Checks.OUTSIDE);
        bench.cell(5, 0, 0, 0);
        checks.due("where with the last cell alone", bench.where(0, 0), 5);
        bench.undefine(5);
        checks.due("where with no cell again", bench.where(0, 0), Checks.OUTSIDE);
    }
}
