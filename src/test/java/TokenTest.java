/** Promise 3: token. */
public final class TokenTest {
    public static void main(String[] args) {
        Checks checks = new Checks();
        answersHowMany(checks);
        firstAndLastTokenAreTaken(checks);
        wrongValuesAreRefused(checks);
        aFullBufferRefuses(checks);
        aFullBufferIsEmptiedAndFilledAgain(checks);
        checks.end();
    }

    /** "answers how many it has then" */
    private static void answersHowMany(Checks checks) {
        for (int value = 0; value <= 10; value++) {
            CellTransport bench = new CellTransport();
            checks.due("count(5) of an empty buffer", bench.count(5), 0);
            for (int many = 1; many <= 8; many++) {
                checks.due("token(" + value + ")", bench.token(value), many);
                checks.due("count(5)", bench.count(5), many);
            }
        }
    }

    /** "a token (0 .. 10)" */
    private static void firstAndLastTokenAreTaken(Checks checks) {
        CellTransport bench = new CellTransport();
        Checks.everywhere(bench, 0);
        checks.due("token(-1)", bench.token(-1), Checks.REFUSED);
        checks.due("token(0)", bench.token(0), 1);
        checks.due("token(10)", bench.token(10), 2);
        checks.due("token(11)", bench.token(11), Checks.REFUSED);
        checks.due("cell of not surface 0", bench.cell(0, 0, 0, 0), 0);
        checks.due("where not in surface 0", bench.where(0, 0), Checks.OUTSIDE);
    }

    private static final int[] WRONG = {-1, 11, 12, 256, Checks.MAX, Checks.MIN};

    private static void wrongValuesAreRefused(Checks checks) {
        CellTransport bench = new CellTransport();
        Checks.everywhere(bench, 0);
        for (int value : WRONG) {
            checks.due("token(" + value + ") to an empty buffer", bench.token(value), Checks.REFUSED);
            checks.due("count(5)", bench.count(5), 0);
        }
        bench.token(0);
        for (int value : WRONG) {
            checks.due("token(" + value + ")", bench.token(value), Checks.REFUSED);
            checks.due("count(5)", bench.count(5), 1);
        }
        checks.due("cell after refused tokens", bench.cell(0, 0, 0, 0), 0);
        checks.due("where", bench.where(0, 0), 0);
    }

    /** "REFUSED also if it has 8." */
    private static void aFullBufferRefuses(Checks checks) {
        CellTransport bench = new CellTransport();
        Checks.everywhere(bench, 0);
        Checks.tokens(bench, 0, 10, 10, 10, 10, 10);
        checks.due("the seventh token", bench.token(10), 7);
        checks.due("the eighth token", bench.token(10), 8);
        for (int value = -1; value <= 11; value++) {
            checks.due("the ninth token " + value, bench.token(value), Checks.REFUSED);
            checks.due("count(5)", bench.count(5), 8);
        }
        checks.due("cell of eight tokens", bench.cell(3, 0, 0, 0), 0);
        checks.due("seven times not", bench.where(0, 0), Checks.OUTSIDE);
    }

    private static void aFullBufferIsEmptiedAndFilledAgain(Checks checks) {
        CellTransport bench = new CellTransport();
        for (int round = 0; round < 3; round++) {
            for (int many = 1; many <= 8; many++) {
                checks.due("token", bench.token(many == 1 ? 0 : 10), many);
            }
            checks.due("the ninth token", bench.token(0), Checks.REFUSED);
            checks.due("cell of a full buffer", bench.cell(1, 0, 0, 0), round == 0 ? 0 : 1);
            checks.due("count(5)", bench.count(5), 0);
            checks.due("seven times not an unset surface", bench.where(0, 0), 1);
        }
    }
}
