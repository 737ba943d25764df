import java.util.ArrayList;
import java.util.Arrays;
import java.util.List;

/**
 * "A refused call answers REFUSED and changes nothing but what is told; numbers out of range are refused before all
 * else." For each number of each call: the last value on either side is taken, the first beyond it is refused, and a
 * bench that was asked so answers all later calls as one that was not.
 */
public final class RangeTest {
    private interface Call {
        int on(CellTransport bench, int[] numbers);
    }

    /** A call with its numbers. */
    private record Asked(String name, Call call, int[] numbers) {
        int on(CellTransport bench) {
            return call.on(bench, numbers);
        }

        @Override
        public String toString() {
            return name + Arrays.toString(numbers);
        }
    }

    private final Checks checks = new Checks();
    private final List<Asked> taken = new ArrayList<>();
    private final List<Asked> refused = new ArrayList<>();

    public static void main(String[] args) {
        RangeTest test = new RangeTest();
        test.listTheCalls();
        test.lastNumbersAreTaken();
        for (int[] tokens : BUFFERS) {
            test.refusedChangesNothing(false, tokens);
            test.refusedChangesNothing(true, tokens);
        }
        test.aFullBufferChangesNothing();
        test.noRegionEmptiesTheBufferAlone();
        test.checks.end();
    }

    private static final Call SURFACE = (bench, n) -> bench.surface(n[0], n[1], n[2], n[3], n[4]);
    private static final Call CELL = (bench, n) -> bench.cell(n[0], n[1], n[2], n[3]);

    private void listTheCalls() {
        int[] number = {0, 7};
        list("surface", SURFACE, 0, 1, number, new int[] {0, 1}, of(9), of(9), new int[] {0, 300});
        list("surface", SURFACE, 2, 4, number, new int[] {0, 0}, of(9), of(9), of(9999));
        list("surface", SURFACE, 2, 4, number, new int[] {1, 1}, of(300), of(300), new int[] {0, 300});
        list("token", (bench, n) -> bench.token(n[0]), 0, 0, new int[] {0, 10});
        int[] half = {0, 500};
        list("cell", CELL, 0, 1, new int[] {0, 5}, new int[] {0, 1000}, half, half);
        listTheShares();
        list("undefine", (bench, n) -> bench.undefine(n[0]), 0, 0, new int[] {0, 5});
        list("source", (bench, n) -> bench.source(n[0], n[1]), 0, 1, of(300), of(300));
        list("skip", (bench, n) -> bench.skip(n[0]), 0, 0, new int[] {0, 100000});
        list("run", (bench, n) -> bench.run(n[0]), 0, 0, new int[] {1, 2});
        list("where", (bench, n) -> bench.where(n[0], n[1]), 0, 1, of(1000), of(1000));
        list("reach", (bench, n) -> bench.reach(n[0], n[1], n[2]), 0, 2, of(1000), of(1000), number);
        list("tally", (bench, n) -> bench.tally(n[0], n[1]), 0, 1, new int[] {0, 5}, new int[] {0, 3});
        list("crossed", (bench, n) -> bench.crossed(n[0], n[1]), 0, 1, new int[] {0, 5}, new int[] {0, 5});
        list("count", (bench, n) -> bench.count(n[0]), 0, 0, new int[] {0, 6});
    }

    private static int[] of(int most) {
        return new int[] {-most, most};
    }

    /** The numbers first to last are put at their edges and beyond them, one by one and all at once. */
    private void list(String name, Call call, int first, int last, int[]... ranges) {
        for (int side = 0; side < 2; side++) {
            int[] inside = new int[ranges.length];
            for (int i = 0; i < ranges.length; i++) {
                inside[i] = ranges[i][side];
            }
            taken.add(new Asked(name, call, inside));
            int[] allBeyond = inside.clone();
            for (int i = first; i <= last; i++) {
                for (int edge : ranges[i]) {
                    taken.add(new Asked(name, call, with(inside, i, edge)));
                }
                for (int beyond : new int[] {ranges[i][0] - 1, ranges[i][1] + 1, Checks.MIN, Checks.MAX}) {
                    refused.add(new Asked(name, call, with(inside, i, beyond)));
                }
                allBeyond[i] = side == 0 ? ranges[i][0] - 1 : ranges[i][1] + 1;
            }
            refused.add(new Asked(name, call, allBeyond));
        }
    }

    private static int[] with(int[] numbers, int index, int value) {
        int[] copy = numbers.clone();
        copy[index] = value;
        return copy;
    }

    private void listTheShares() {
        int[][] inside = {{0, 0}, {1000, 0}, {0, 1000}, {500, 500}, {999, 1}, {1, 999}, {0, 999}, {999, 0}};
        for (int[] shares : inside) {
            taken.add(new Asked("cell", CELL, new int[] {3, 10, shares[0], shares[1]}));
        }
        int[][] beyond = {{-1, 0}, {0, -1}, {1001, 0}, {0, 1001}, {1, 1000}, {1000, 1}, {500, 501}, {501, 500},
            {-1, 1001}, {1001, -1}, {-1, 1000}, {1000, -1}, {-1, -1}, {Checks.MAX, Checks.MAX}, {Checks.MAX, 1},
            {1, Checks.MAX}, {Checks.MIN, Checks.MIN}, {Checks.MIN, 0}, {0, Checks.MIN}, {Checks.MIN, Checks.MAX},
            {Checks.MAX, Checks.MIN}, {Checks.MIN, 1000}, {1000, Checks.MIN}};
        for (int[] shares : beyond) {
            refused.add(new Asked("cell", CELL, new int[] {3, 10, shares[0], shares[1]}));
        }
    }

    private void lastNumbersAreTaken() {
        for (Asked asked : taken) {
            for (boolean isUsed : new boolean[] {false, true}) {
                CellTransport bench = bench(isUsed, 2);
                checks.due(asked + " is taken", asked.on(bench) == Checks.REFUSED ? 0 : 1, 1);
            }
        }
    }

    /** None; one that tells a region; two that tell none; eight that tell a region. */
    private static final int[][] BUFFERS = {{}, {2}, {2, 4}, {0, 2, 10, 8, 4, 9, 6, 9}};

    private void refusedChangesNothing(boolean isUsed, int... tokens) {
        int[] due = allThatItTells(bench(isUsed, tokens));
        for (Asked asked : refused) {
            CellTransport bench = bench(isUsed, tokens);
            checks.due(asked + " is refused", asked.on(bench), Checks.REFUSED);
            same(asked + " with the buffer " + Arrays.toString(tokens), allThatItTells(bench), due);
        }
    }

    /** token: "REFUSED also if it has 8" */
    private void aFullBufferChangesNothing() {
        int[] full = BUFFERS[BUFFERS.length - 1];
        int[] due = allThatItTells(bench(true, full));
        for (int value = 0; value <= 10; value++) {
            CellTransport bench = bench(true, full);
            checks.due("the ninth token " + value, bench.token(value), Checks.REFUSED);
            same("the ninth token " + value, allThatItTells(bench), due);
        }
    }

    /** cell: "if it does not tell a region the answer is REFUSED and the cell is as before" */
    private void noRegionEmptiesTheBufferAlone() {
        int[] due = allThatItTells(bench(true));
        int[][] noRegions = {{}, {8}, {9}, {10}, {2, 4}, {2, 8}, {9, 2}, {10, 2}, {2, 4, 8, 8}, {2, 4, 6, 9},
            {0, 1, 2, 3, 4, 5, 6, 7}, {0, 1, 2, 3, 8, 8, 8, 8}};
        for (int[] tokens : noRegions) {
            for (int cell = 0; cell < 6; cell++) {
                CellTransport bench = bench(true, tokens);
                String call = "cell(" + cell + ", 500, 500, 500) of " + Arrays.toString(tokens);
                checks.due(call, bench.cell(cell, 500, 500, 500), Checks.REFUSED);
                same(call, allThatItTells(bench), due);
            }
        }
    }

    private void same(String call, int[] got, int[] due) {
        checks.due("calls after " + call, Arrays.mismatch(got, due), -1);
    }

    /** A new bench, or one of five rings and a sixth cell not defined, in which much has been counted. */
    private static CellTransport bench(boolean isUsed, int... tokens) {
        CellTransport bench = new CellTransport();
        if (isUsed) {
            for (int ring = 0; ring < 5; ring++) {
                bench.surface(ring, 1, 5, -5, 5 + 10 * ring);
                bench.token(ring);
                bench.cell(ring, 100 + 90 * ring, 30 * ring, 300 - 40 * ring);
            }
            bench.surface(6, 0, 3, -2, 7);
            bench.source(7, -3);
            bench.seed(20261116);
            for (int round = 0; round < 5; round++) {
                bench.run(2);
            }
        }
        Checks.tokens(bench, tokens);
        return bench;
    }

    /** The answers to some 300 calls that, one after another, lay open all that the bench holds. */
    private static int[] allThatItTells(CellTransport bench) {
        List<Integer> answers = new ArrayList<>();
        addCounts(answers, bench);
        addPlaces(answers, bench);
        for (int round = 0; round < 15; round++) {
            answers.add(bench.run(2));
            answers.add(bench.state());
        }
        addCounts(answers, bench);
        // Two tokens tell no region until they are joined.
        if (bench.count(5) == 2) {
            bench.token(9);
        }
        answers.add(bench.cell(5, 20, 30, 40));
        for (int cell = 0; cell < 6; cell++) {
            addPlaces(answers, bench);
            answers.add(bench.undefine(cell));
        }
        for (int surface = 0; surface < 8; surface++) {
            answers.add(bench.surface(surface, 0, 0, 0, 0));
        }
        answers.add(bench.token(0));
        return answers.stream().mapToInt(Integer::intValue).toArray();
    }

    private static void addCounts(List<Integer> answers, CellTransport bench) {
        answers.add(bench.state());
        for (int what = 0; what <= 6; what++) {
            answers.add(bench.count(what));
        }
        for (int cell = 0; cell < 6; cell++) {
            for (int what = 0; what < 4; what++) {
                answers.add(bench.tally(cell, what));
            }
            for (int to = 0; to < 6; to++) {
                answers.add(bench.crossed(cell, to));
            }
        }
    }

    private static void addPlaces(List<Integer> answers, CellTransport bench) {
        for (int[] point : new int[][] {{5, -5}, {0, 0}, {20, 3}, {-15, -25}, {35, -30}, {50, 2}, {-60, 60}}) {
            answers.add(bench.where(point[0], point[1]));
        }
        for (int direction = 0; direction < 8; direction++) {
            answers.add(bench.reach(5, -5, direction));
        }
    }
}
