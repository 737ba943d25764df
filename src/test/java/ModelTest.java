import java.util.ArrayDeque;
import java.util.ArrayList;
import java.util.List;
import java.util.Random;

/** All promises: long runs of mixed calls, answered as a second, slow writing of the document answers them. */
public final class ModelTest {
    private static final int OBJECTS = 1500;
    private static final int CALLS = 512;

    private final Checks checks = new Checks();
    private final Random random = new Random(20261115);
    private CellTransport bench;
    private Model model;
    private int wildness;
    private int calls;

    public static void main(String[] args) {
        ModelTest test = new ModelTest();
        for (int object = 0; object < OBJECTS; object++) {
            test.playObject(object);
        }
        test.checks.end();
    }

    private void playObject(int object) {
        bench = new CellTransport();
        model = new Model();
        wildness = object % 3 == 0 ? 12 : 60;
        calls = 0;
        // Some objects are asked at random from the start, the others are first given cells to fly through.
        if (object % 4 != 0) {
            layOut();
        }
        // A kind of call may be two calls in truth.
        while (calls < CALLS - 1) {
            call(random.nextInt(24));
        }
    }

    private void layOut() {
        for (int number = 0; number < 8; number++) {
            setSurface(number);
        }
        for (int number = 0; number < 6; number++) {
            for (int value : new int[] {random.nextInt(8), random.nextInt(8), 8 + random.nextInt(2)}) {
                due("token(" + value + ")", bench.token(value), model.token(value));
            }
            defineCell(number);
        }
    }

    private void due(String call, int got, int want) {
        calls++;
        checks.due(call, got, want);
    }

    /** A number in the range, or now and then one at its edges or beyond them. */
    private int in(int least, int most) {
        switch (random.nextInt(wildness)) {
            case 0: return least;
            case 1: return most;
            case 2: return random.nextBoolean() ? least - 1 : most + 1;
            case 3: return random.nextInt(10) == 0 ? random.nextInt() : least + random.nextInt(most - least + 1);
            default: return least + random.nextInt(most - least + 1);
        }
    }

    private void setSurface(int number) {
        int kind = in(0, 1);
        int a = kind == 0 ? in(-9, 9) : in(-40, 40);
        int b = kind == 0 ? in(-9, 9) : in(-40, 40);
        int c = kind == 0 ? in(-300, 300) : in(0, 80);
        if (random.nextInt(8) == 0) {
            a = kind == 0 ? in(-9, 9) : in(-300, 300);
            c = kind == 0 ? in(-9999, 9999) : in(0, 300);
        }
        due("surface", bench.surface(number, kind, a, b, c), model.surface(number, kind, a, b, c));
    }

    private void defineCell(int number) {
        int density = random.nextInt(3) == 0 ? in(0, 1000) : in(0, 60);
        int absorption = in(0, 1000);
        int fission = random.nextInt(6) == 0 ? in(0, 1000) : in(0, Math.max(0, 1000 - absorption));
        if (random.nextInt(3) == 0) {
            absorption = in(0, 100);
            fission = in(0, 900);
        }
        due("cell", bench.cell(number, density, absorption, fission),
            model.cell(number, density, absorption, fission));
    }

    private void call(int kind) {
        switch (kind) {
            case 0: setSurface(in(0, 7)); break;
            case 1: case 2: case 3: addTokens(); break;
            case 4: case 5: defineCell(in(0, 5)); break;
            case 6: undefineSometimes(); break;
            case 7: placeSource(); break;
            case 8: seed(); break;
            case 9: skip(); break;
            case 10: due("state()", bench.state(), model.state()); break;
            case 11: case 12: case 13: case 14: fly(); break;
            case 15: case 16: askWhere(); break;
            case 17: askReach(); break;
            case 18: case 19: askTally(); break;
            case 20: askCrossed(); break;
            case 21: case 22: askCount(); break;
            default: clearSometimes(); break;
        }
    }

    private void addTokens() {
        int value = model.buffer.size() < 2 || random.nextInt(3) == 0 ? in(0, 7) : in(8, 10);
        due("token(" + value + ")", bench.token(value), model.token(value));
    }

    private void undefineSometimes() {
        int number = random.nextInt(4) == 0 ? in(0, 5) : in(6, 7);
        due("undefine", bench.undefine(number), model.undefine(number));
    }

    private void placeSource() {
        int x = random.nextInt(4) == 0 ? in(-300, 300) : in(-40, 40);
        int y = random.nextInt(4) == 0 ? in(-300, 300) : in(-40, 40);
        due("source", bench.source(x, y), model.source(x, y));
    }

    private void seed() {
        int value = random.nextInt();
        calls++;
        bench.seed(value);
        model.seed(value);
    }

    private void skip() {
        int n = random.nextInt(50) == 0 ? in(0, 100000) : in(0, 300);
        due("skip(" + n + ")", bench.skip(n), model.skip(n));
    }

    private void fly() {
        int n = in(1, 2);
        due("run(" + n + ")", bench.run(n), model.run(n));
        due("state()", bench.state(), model.state());
    }

    private void askWhere() {
        int x = random.nextInt(4) == 0 ? in(-1000, 1000) : in(-60, 60);
        int y = random.nextInt(4) == 0 ? in(-1000, 1000) : in(-60, 60);
        due("where", bench.where(x, y), model.where(x, y));
    }

    private void askReach() {
        int x = random.nextInt(4) == 0 ? in(-1000, 1000) : in(-60, 60);
        int y = random.nextInt(4) == 0 ? in(-1000, 1000) : in(-60, 60);
        int direction = in(0, 7);
        due("reach", bench.reach(x, y, direction), model.reach(x, y, direction));
    }

    private void askTally() {
        int cell = in(0, 5);
        int what = in(0, 3);
        due("tally(" + cell + ", " + what + ")", bench.tally(cell, what), model.tally(cell, what));
    }

    private void askCrossed() {
        int from = in(0, 5);
        int to = in(0, 5);
        due("crossed(" + from + ", " + to + ")", bench.crossed(from, to), model.crossed(from, to));
    }

    private void askCount() {
        int what = in(0, 6);
        due("count(" + what + ")", bench.count(what), model.count(what));
    }

    private void clearSometimes() {
        if (random.nextInt(6) == 0) {
            calls++;
            bench.clear();
            model.clear();
        }
    }

    /** The document again, with the library's lists, in the plainest form and without regard to speed. */
    private static final class Model {
        record Surface(int kind, long a, long b, long c) { }

        record Cell(List<Integer> region, int density, int absorption, int fission) { }

        final Surface[] surfaces = new Surface[8];
        final Cell[] cells = new Cell[6];
        final List<Integer> buffer = new ArrayList<>();
        long state = 1;
        int sourceX = 0;
        int sourceY = 0;
        int[][] tallies = new int[6][4];
        int[][] crossings = new int[6][6];
        int[] counts = new int[5];

        static boolean out(long value, long least, long most) {
            return value < least || value > most;
        }

        int surface(int number, int kind, int a, int b, int c) {
            if (out(number, 0, 7) || out(kind, 0, 1)) {
                return -1;
            }
            if (kind == 0 && (out(a, -9, 9) || out(b, -9, 9) || out(c, -9999, 9999))) {
                return -1;
            }
            if (kind == 1 && (out(a, -300, 300) || out(b, -300, 300) || out(c, 0, 300))) {
                return -1;
            }
            int answer = surfaces[number] == null ? 0 : 1;
            surfaces[number] = new Surface(kind, a, b, c);
            return answer;
        }

        int token(int value) {
            if (out(value, 0, 10) || buffer.size() == 8) {
                return -1;
            }
            buffer.add(value);
            return buffer.size();
        }

        int cell(int number, int density, int absorption, int fission) {
            if (out(number, 0, 5) || out(density, 0, 1000) || absorption < 0 || fission < 0
                    || (long) absorption + fission > 1000) {
                return -1;
            }
            List<Integer> region = List.copyOf(buffer);
            buffer.clear();
            if (evaluate(region, 0, 0) == null) {
                return -1;
            }
            int answer = cells[number] == null ? 0 : 1;
            cells[number] = new Cell(region, density, absorption, fission);
            return answer;
        }

        /** Whether the region holds the point, or null if the tokens tell no region. */
        Boolean evaluate(List<Integer> region, long x, long y) {
            ArrayDeque<Boolean> operands = new ArrayDeque<>();
            for (int token : region) {
                if (token < 8) {
                    operands.push(holds(surfaces[token], x, y));
                } else if (operands.size() < (token == 10 ? 1 : 2)) {
                    return null;
                } else if (token == 10) {
                    operands.push(!operands.pop());
                } else {
                    boolean second = operands.pop();
                    boolean first = operands.pop();
                    operands.push(token == 8 ? first && second : first || second);
                }
            }
            return operands.size() == 1 ? operands.pop() : null;
        }

        static boolean holds(Surface s, long x, long y) {
            if (s == null) {
                return false;
            }
            return s.kind == 0 ? s.a * x + s.b * y <= s.c
                : (x - s.a) * (x - s.a) + (y - s.b) * (y - s.b) <= s.c * s.c;
        }

        int undefine(int number) {
            if (out(number, 0, 5)) {
                return -1;
            }
            int answer = cells[number] == null ? 0 : 1;
            cells[number] = null;
            return answer;
        }

        int source(int x, int y) {
            if (out(x, -300, 300) || out(y, -300, 300)) {
                return -1;
            }
            sourceX = x;
            sourceY = y;
            return 0;
        }

        void seed(int value) {
            state = Math.floorMod((long) value, 2147483648L);
        }

        int skip(int n) {
            if (out(n, 0, 100000)) {
                return -1;
            }
            for (int i = 0; i < n; i++) {
                draw(1);
            }
            return state();
        }

        int state() {
            return (int) state;
        }

        int draw(int below) {
            state = Checks.next(state);
            return (int) (state / 256 % below);
        }

        int run(int n) {
            if (out(n, 1, 2)) {
                return -1;
            }
            int before = counts[0];
            for (int i = 0; i < n; i++) {
                history();
            }
            return counts[0] - before;
        }

        void history() {
            ArrayDeque<int[]> line = new ArrayDeque<>();
            line.push(new int[] {sourceX, sourceY});
            int born = 1;
            while (!line.isEmpty()) {
                int[] place = line.pop();
                counts[0]++;
                if (fly(place)) {
                    for (int twin = 0; twin < 2; twin++) {
                        if (born == 12) {
                            counts[3]++;
                        } else {
                            born++;
                            line.push(place.clone());
                        }
                    }
                }
            }
            counts[4]++;
        }

        /** Answers whether the particle ended in a fission, at the place as it then is. */
        boolean fly(int[] place) {
            int direction = draw(8);
            int budget = 1 + draw(2000);
            for (int steps = 1; ; steps++) {
                int before = cellAt(place[0], place[1]);
                place[0] += Checks.STEP_X[direction];
                place[1] += Checks.STEP_Y[direction];
                int now = cellAt(place[0], place[1]);
                if (now == 6) {
                    counts[1]++;
                    return false;
                }
                tallies[now][0]++;
                if (before != 6 && before != now) {
                    crossings[before][now]++;
                }
                budget -= cells[now].density;
                if (budget <= 0) {
                    tallies[now][1]++;
                    int r = draw(1000);
                    if (r < cells[now].absorption) {
                        tallies[now][2]++;
                        return false;
                    }
                    if (r < cells[now].absorption + cells[now].fission) {
                        tallies[now][3]++;
                        return true;
                    }
                    direction = draw(8);
                    budget = 1 + draw(2000);
                }
                if (steps == 200) {
                    counts[2]++;
                    return false;
                }
            }
        }

        int cellAt(int x, int y) {
            for (int number = 0; number < 6; number++) {
                if (cells[number] != null && evaluate(cells[number].region, x, y)) {
                    return number;
                }
            }
            return 6;
        }

        int where(int x, int y) {
            return out(x, -1000, 1000) || out(y, -1000, 1000) ? -1 : cellAt(x, y);
        }

        int reach(int x, int y, int direction) {
            if (out(x, -1000, 1000) || out(y, -1000, 1000) || out(direction, 0, 7)) {
                return -1;
            }
            int home = cellAt(x, y);
            int steps = 0;
            while (steps < 200) {
                x += Checks.STEP_X[direction];
                y += Checks.STEP_Y[direction];
                if (cellAt(x, y) != home) {
                    break;
                }
                steps++;
            }
            return steps;
        }

        int tally(int cell, int what) {
            return out(cell, 0, 5) || out(what, 0, 3) ? -1 : tallies[cell][what];
        }

        int crossed(int from, int to) {
            return out(from, 0, 5) || out(to, 0, 5) ? -1 : crossings[from][to];
        }

        int count(int what) {
            if (out(what, 0, 6)) {
                return -1;
            }
            if (what == 5) {
                return buffer.size();
            }
            int defined = 0;
            for (Cell cell : cells) {
                defined += cell == null ? 0 : 1;
            }
            return what == 6 ? defined : counts[what];
        }

        void clear() {
            tallies = new int[6][4];
            crossings = new int[6][6];
            counts = new int[5];
        }
    }
}
