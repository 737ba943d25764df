import java.util.Arrays;

/**
 * A bench for particles that fly through a plane of cells: cells are put together from surfaces,
 * particles fly, collide, are absorbed or split, and all that happens is counted.
 */
public final class CellTransport {
    public static final int REFUSED = -1;
    public static final int OUTSIDE = 6;

    private static final int SURFACES = 8;
    private static final int CELLS = 6;

    private static final int PLANE = 0;
    private static final int DISC = 1;
    private static final int MOST_SLOPE = 9;
    private static final int MOST_OFFSET = 9999;
    private static final int MOST_CENTRE = 300;
    private static final int MOST_RADIUS = 300;

    // Tokens below AND are the numbers of surfaces.
    private static final int AND = 8;
    private static final int OR = 9;
    private static final int NOT = 10;
    private static final int MOST_TOKENS = 8;

    private static final int MOST_DENSITY = 1000;
    private static final int ALL_SHARES = 1000;
    private static final int MOST_SOURCE = 300;
    private static final int MOST_PLACE = 1000;
    private static final int MOST_REACH = 200;

    private static final int MOST_SKIP = 100000;
    // 2 to the power of 17 is the first above MOST_SKIP.
    private static final int SKIP_BITS = 17;

    private static final int MOST_HISTORIES = 2;
    private static final int MOST_PARTICLES = 12;
    private static final int MOST_STEPS = 200;
    private static final int MOST_BUDGET = 2000;

    private static final int DIRECTIONS = 8;
    private static final int[] STEP_X = {1, 1, 0, -1, -1, -1, 0, 1};
    private static final int[] STEP_Y = {0, 1, 1, 1, 0, -1, -1, -1};

    private static final int TALLIES = 4;
    private static final int TRACKS = 0;
    private static final int COLLISIONS = 1;
    private static final int ABSORPTIONS = 2;
    private static final int FISSIONS = 3;

    private static final int TOTALS = 5;
    private static final int FLOWN = 0;
    private static final int LEAKED = 1;
    private static final int CUT = 2;
    private static final int LOST = 3;
    private static final int HISTORIES = 4;
    private static final int BUFFERED_TOKENS = 5;
    private static final int DEFINED_CELLS = 6;

    private final Geometry geometry;
    private final Region buffer;
    private final Generator generator;
    private final Counts counts;
    private final Line line;
    private final Particle particle;
    private int sourceX;
    private int sourceY;

    public CellTransport() {
        geometry = new Geometry();
        buffer = new Region();
        generator = new Generator();
        counts = new Counts();
        line = new Line();
        particle = new Particle();
    }

    public int surface(int number, int kind, int a, int b, int c) {
        if (!isBetween(number, 0, SURFACES - 1) || !isSurface(kind, a, b, c)) {
            return REFUSED;
        }
        Surface chosen = geometry.surfaces[number];
        int answer = oneIf(chosen.isSet);
        chosen.become(kind, a, b, c);
        return answer;
    }

    public int token(int value) {
        if (!isBetween(value, 0, NOT) || buffer.size >= MOST_TOKENS) {
            return REFUSED;
        }
        buffer.add(value);
        return buffer.size;
    }

    public int cell(int number, int density, int absorption, int fission) {
        if (!isBetween(number, 0, CELLS - 1) || !isBetween(density, 0, MOST_DENSITY)
                || !areShares(absorption, fission)) {
            return REFUSED;
        }
        if (!buffer.isWhole()) {
            buffer.size = 0;
            return REFUSED;
        }
        Cell chosen = geometry.cells[number];
        int answer = oneIf(chosen.isDefined);
        chosen.define(buffer, density, absorption, fission);
        buffer.size = 0;
        return answer;
    }

    public int undefine(int number) {
        if (!isBetween(number, 0, CELLS - 1)) {
            return REFUSED;
        }
        Cell chosen = geometry.cells[number];
        int answer = oneIf(chosen.isDefined);
        chosen.isDefined = false;
        return answer;
    }

    public int source(int x, int y) {
        if (!areWithin(x, y, MOST_SOURCE)) {
            return REFUSED;
        }
        sourceX = x;
        sourceY = y;
        return 0;
    }

    public void seed(int value) {
        generator.start(value);
    }

    public int skip(int n) {
        if (!isBetween(n, 0, MOST_SKIP)) {
            return REFUSED;
        }
        generator.leap(n);
        return generator.state;
    }

    public int state() {
        return generator.state;
    }

    public int run(int n) {
        if (!isBetween(n, 1, MOST_HISTORIES)) {
            return REFUSED;
        }
        int flown = 0;
        for (int history = 0; history < n; history++) {
            flown += playHistory();
        }
        return flown;
    }

    public int where(int x, int y) {
        if (!areWithin(x, y, MOST_PLACE)) {
            return REFUSED;
        }
        return geometry.cellAt(x, y);
    }

    public int reach(int x, int y, int direction) {
        if (!areWithin(x, y, MOST_PLACE) || !isBetween(direction, 0, DIRECTIONS - 1)) {
            return REFUSED;
        }
        int home = geometry.cellAt(x, y);
        for (int steps = 1; steps <= MOST_REACH; steps++) {
            if (geometry.cellAt(x + steps * STEP_X[direction], y + steps * STEP_Y[direction]) != home) {
                return steps - 1;
            }
        }
        return MOST_REACH;
    }

    public int tally(int cell, int what) {
        if (!isBetween(cell, 0, CELLS - 1) || !isBetween(what, 0, TALLIES - 1)) {
            return REFUSED;
        }
        return counts.tallies[cell][what];
    }

    public int crossed(int from, int to) {
        if (!isBetween(from, 0, CELLS - 1) || !isBetween(to, 0, CELLS - 1)) {
            return REFUSED;
        }
        return counts.crossings[from][to];
    }

    public int count(int what) {
        if (isBetween(what, 0, TOTALS - 1)) {
            return counts.totals[what];
        }
        switch (what) {
            case BUFFERED_TOKENS:
                return buffer.size;
            case DEFINED_CELLS:
                return geometry.definedCells();
            default:
                return REFUSED;
        }
    }

    public void clear() {
        counts.reset();
    }

    private static boolean isBetween(int value, int least, int most) {
        return least <= value && value <= most;
    }

    private static boolean areWithin(int x, int y, int most) {
        return isBetween(x, -most, most) && isBetween(y, -most, most);
    }

    private static boolean isSurface(int kind, int a, int b, int c) {
        switch (kind) {
            case PLANE:
                return areWithin(a, b, MOST_SLOPE) && isBetween(c, -MOST_OFFSET, MOST_OFFSET);
            case DISC:
                return areWithin(a, b, MOST_CENTRE) && isBetween(c, 0, MOST_RADIUS);
            default:
                return false;
        }
    }

    private static boolean areShares(int absorption, int fission) {
        // The room for fission is a difference, for the sum of two great numbers would wrap around.
        return isBetween(absorption, 0, ALL_SHARES) && isBetween(fission, 0, ALL_SHARES - absorption);
    }

    private static int oneIf(boolean condition) {
        return condition ? 1 : 0;
    }

    private int playHistory() {
        line.empty();
        line.join(sourceX, sourceY);
        int flown = 0;
        while (line.waiting > 0 && flown < MOST_PARTICLES) {
            line.sendLast(particle);
            flown++;
            fly();
        }
        counts.totals[FLOWN] += flown;
        counts.totals[HISTORIES]++;
        return flown;
    }

    private void fly() {
        particle.cell = geometry.cellAt(particle.x, particle.y);
        aim();
        for (int steps = 0; steps < MOST_STEPS; steps++) {
            if (!survivesStep()) {
                return;
            }
        }
        counts.totals[CUT]++;
    }

    private void aim() {
        particle.direction = generator.draw() % DIRECTIONS;
        particle.budget = 1 + generator.draw() % MOST_BUDGET;
    }

    private boolean survivesStep() {
        int before = particle.cell;
        particle.move();
        particle.cell = geometry.cellAt(particle.x, particle.y);
        if (particle.cell == OUTSIDE) {
            counts.totals[LEAKED]++;
            return false;
        }
        counts.addTrack(before, particle.cell);
        Cell entered = geometry.cells[particle.cell];
        particle.budget -= entered.density;
        return particle.budget > 0 || survivesCollision(entered);
    }

    private boolean survivesCollision(Cell struck) {
        int[] tallies = counts.tallies[particle.cell];
        tallies[COLLISIONS]++;
        int r = generator.draw() % ALL_SHARES;
        if (r < struck.absorption) {
            tallies[ABSORPTIONS]++;
            return false;
        }
        if (r < struck.absorption + struck.fission) {
            tallies[FISSIONS]++;
            split();
            return false;
        }
        aim();
        return true;
    }

    private void split() {
        for (int half = 0; half < 2; half++) {
            if (!line.join(particle.x, particle.y)) {
                counts.totals[LOST]++;
            }
        }
    }

    private static final class Surface {
        private boolean isSet;
        private int kind;
        private int a;
        private int b;
        private int c;

        private void become(int newKind, int newA, int newB, int newC) {
            isSet = true;
            kind = newKind;
            a = newA;
            b = newB;
            c = newC;
        }

        private boolean holds(int x, int y) {
            if (!isSet) {
                return false;
            }
            if (kind == PLANE) {
                return a * x + b * y <= c;
            }
            return (x - a) * (x - a) + (y - b) * (y - b) <= c * c;
        }
    }

    /** Tokens in a row: the buffer, which may tell a region or not, and the region of each cell. */
    private static final class Region {
        private final int[] tokens = new int[MOST_TOKENS];
        private int size;

        private void add(int value) {
            if (size < MOST_TOKENS) {
                tokens[size] = value;
                size++;
            }
        }

        private void copyFrom(Region other) {
            System.arraycopy(other.tokens, 0, tokens, 0, MOST_TOKENS);
            size = other.size;
        }

        private boolean isWhole() {
            int operands = 0;
            for (int i = 0; i < size; i++) {
                if (operands < operandsOf(tokens[i])) {
                    return false;
                }
                operands += 1 - operandsOf(tokens[i]);
            }
            return operands == 1;
        }

        private static int operandsOf(int token) {
            switch (token) {
                case AND:
                case OR:
                    return 2;
                case NOT:
                    return 1;
                default:
                    return 0;
            }
        }

        /** The operands lie as bits of one int, the last one lowest, so that no point needs an array. */
        private boolean holds(Surface[] surfaces, int x, int y) {
            int operands = 0;
            for (int i = 0; i < size; i++) {
                int last = operands & 1;
                int others = operands >> 1;
                switch (tokens[i]) {
                    case AND:
                        operands = last == 1 ? others : others & ~1;
                        break;
                    case OR:
                        operands = others | last;
                        break;
                    case NOT:
                        operands = operands ^ 1;
                        break;
                    default:
                        operands = operands << 1 | oneIf(surfaces[tokens[i]].holds(x, y));
                }
            }
            return operands == 1;
        }
    }

    private static final class Cell {
        private final Region region = new Region();
        private boolean isDefined;
        private int density;
        private int absorption;
        private int fission;

        private void define(Region newRegion, int newDensity, int newAbsorption, int newFission) {
            isDefined = true;
            region.copyFrom(newRegion);
            density = newDensity;
            absorption = newAbsorption;
            fission = newFission;
        }
    }

    private static final class Geometry {
        private final Surface[] surfaces = new Surface[SURFACES];
        private final Cell[] cells = new Cell[CELLS];

        private Geometry() {
            for (int number = 0; number < SURFACES; number++) {
                surfaces[number] = new Surface();
            }
            for (int number = 0; number < CELLS; number++) {
                cells[number] = new Cell();
            }
        }

        private int cellAt(int x, int y) {
            for (int number = 0; number < CELLS; number++) {
                if (cells[number].isDefined && cells[number].region.holds(surfaces, x, y)) {
                    return number;
                }
            }
            return OUTSIDE;
        }

        private int definedCells() {
            int defined = 0;
            for (int number = 0; number < CELLS; number++) {
                defined += oneIf(cells[number].isDefined);
            }
            return defined;
        }
    }

    /** Its int arithmetic wraps at 2 to the power of 32, which leaves the lower 31 bits as they are due. */
    private static final class Generator {
        private static final int FACTOR = 1103515245;
        private static final int SHIFT = 12345;
        private static final int LOWER_31_BITS = 2147483647;

        private int state = 1;

        private void start(int value) {
            state = value & LOWER_31_BITS;
        }

        /** The draw before it is taken mod k: each caller's k is a constant that is not 0. */
        private int draw() {
            state = (state * FACTOR + SHIFT) & LOWER_31_BITS;
            return state / 256;
        }

        /** The change that 1, 2, 4, .. draws make is again one factor and one shift, so n draws need no n rounds. */
        private void leap(int n) {
            int factor = FACTOR;
            int shift = SHIFT;
            for (int bit = 0; bit < SKIP_BITS; bit++) {
                if ((n >> bit & 1) == 1) {
                    state = (state * factor + shift) & LOWER_31_BITS;
                }
                shift = shift * factor + shift;
                factor = factor * factor;
            }
        }
    }

    private static final class Counts {
        private final int[] totals = new int[TOTALS];
        private final int[][] tallies = new int[CELLS][TALLIES];
        private final int[][] crossings = new int[CELLS][CELLS];

        private void addTrack(int before, int cell) {
            tallies[cell][TRACKS]++;
            // A particle that comes in from a source outside leaves no cell.
            if (before != cell && before != OUTSIDE) {
                crossings[before][cell]++;
            }
        }

        private void reset() {
            Arrays.fill(totals, 0);
            for (int cell = 0; cell < CELLS; cell++) {
                Arrays.fill(tallies[cell], 0);
                Arrays.fill(crossings[cell], 0);
            }
        }
    }

    /** The waiting particles of one history. */
    private static final class Line {
        private final int[] placesX = new int[MOST_PARTICLES];
        private final int[] placesY = new int[MOST_PARTICLES];
        private int waiting;
        private int joined;

        private void empty() {
            waiting = 0;
            joined = 0;
        }

        /** Answers false if the history has had all its particles. */
        private boolean join(int x, int y) {
            if (joined >= MOST_PARTICLES) {
                return false;
            }
            placesX[waiting] = x;
            placesY[waiting] = y;
            waiting++;
            joined++;
            return true;
        }

        private void sendLast(Particle particle) {
            if (waiting > 0) {
                waiting--;
                particle.x = placesX[waiting];
                particle.y = placesY[waiting];
            }
        }
    }

    /** The one particle that flies; it is used again for each. */
    private static final class Particle {
        private int x;
        private int y;
        private int cell;
        private int direction;
        private int budget;

        private void move() {
            x += STEP_X[direction];
            y += STEP_Y[direction];
        }
    }
}
