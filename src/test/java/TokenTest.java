/** Promise 3: token. */
public final class TokenTest {
    public static void main(String[] args) {
        Checks checks = new Checks();
        answersHowMany(checks);
        wrongValuesAreRefused(checks);
        aFullBufferRefuses(checks);
        checks.end();
    }

    private static void answersHowMany(Checks checks) {
        for (int value = 0; value <= 10; value++) {
            CellTransport bench = new CellTransport();
            for (int many = 1; many <= 8; many++) {
                checks.due("token(" + value + ")", bench.token(value), many);
                checks.due("count(5)", bench.count(5), many);
            }
        }
    }

    private static void wrongValuesAreRefused(Checks checks) {
        CellTransport bench = new CellTransport();
        Checks.everywhere(bench, 0);
        bench.token(0);
        for (int value : new int[] {-1, 11, 12, 256, Integer.MAX_VALUE, Integer.MIN_VALUE}) {
            checks.due("token(" + value + ")", bench.token(value), Checks.REFUSED);
            checks.due("count(5)", bench.count(5), 1);
        }
        checks.due("cell after refused tokens", bench.cell(0, 0, 0, 0), 0);
        checks.due("where", bench.where(0, 0), 0);
    }

    private static void aFullBufferRefuses(Checks checks) {
        CellTransport bench = new CellTransport();
        Checks.everywhere(bench, 0);
        Checks.tokens(bench, 0, 10, 10, 10, 10, 10, 10);
        checks.due("the eighth token", bench.token(10), 8);
        checks.due("the ninth token", bench.token(10), Checks.REFUSED);
        checks.due("count(5)", bench.count(5), 8);
        checks.due("cell of eight tokens", bench.cell(3, 0, 0, 0), 0);
        checks.due("seven times not", bench.where(0, 0), Checks.OUTSIDE);
        checks.due("token after cell", bench.token(0), 1);
    }
}
