import java.util.Arrays;
import java.util.NoSuchElementException;

/**
 * A gas of particles on a grid in which every cell has six neighbours.
 *
 * <p>A cell's number is 16 * y + x and a particle's place is 8 * cell + kind: so a place is at
 * once what marked() answers, and the order of the numbers is row by row.
 */
public final class SixWayGas {
    public static final int NONE = -1;

    private static final int DIRECTIONS = 6;
    private static final int OPPOSITE = 3;
    private static final int REST = 6;
    private static final int MOST_BITS = 127;
    private static final int MOST_STEPS = 64;
    private static final int MOST_RATE = 256;
    private static final int MOST_MASS = 10000;
    private static final int FIELDS = 3;

    private static final int PLAIN = 0;
    private static final int WALL = 1;
    private static final int SOURCE = 2;
    private static final int SINK = 3;
    private static final int BODY = 4;

    private final Grid grid;
    private final int[] edges;
    private final int[] rates;
    private int[] cellBits;
    private int[] flownBits;
    private final int[] gained;
    private final int[] given;
    private final Books books;
    private final Body body;
    private final Marks marks;
    private int seed;
    private int time;

    public SixWayGas(int w, int h) {
        grid = new Grid(w, h);
        edges = new int[Grid.SIZE];
        rates = new int[Grid.SIZE];
        cellBits = new int[Grid.SIZE];
        flownBits = new int[Grid.SIZE];
        gained = new int[Grid.SIZE];
        given = new int[Grid.SIZE];
        books = new Books();
        body = new Body();
        marks = new Marks();
    }

    public void set(int x, int y, int bits) throws IndexOutOfBoundsException, IllegalArgumentException {
        int cell = cellAt(x, y);
        requireRange(bits, 0, MOST_BITS);
        cellBits[cell] = bits;
        marks.lose(cell);
    }

    public int get(int x, int y) throws IndexOutOfBoundsException {
        return cellBits[cellAt(x, y)];
    }

    public int rule(int bits, int sense) throws IllegalArgumentException {
        requireRange(bits, 0, MOST_BITS);
        requireRange(sense, 0, 1);
        return Particles.met(bits, sense);
    }

    public boolean wall(int x, int y, boolean on) throws IndexOutOfBoundsException, IllegalStateException {
        return changeEdge(cellAt(x, y), WALL, on);
    }

    public void source(int x, int y, int rate)
            throws IndexOutOfBoundsException, IllegalArgumentException, IllegalStateException {
        int cell = cellAt(x, y);
        requireRange(rate, 0, MOST_RATE);
        changeEdge(cell, SOURCE, rate > 0);
        rates[cell] = rate;
    }

    public boolean sink(int x, int y, boolean on) throws IndexOutOfBoundsException, IllegalStateException {
        return changeEdge(cellAt(x, y), SINK, on);
    }

    public boolean body(int x, int y, boolean on) throws IndexOutOfBoundsException, IllegalStateException {
        return changeEdge(cellAt(x, y), BODY, on);
    }

    public int edge(int x, int y) throws IndexOutOfBoundsException {
        return edges[cellAt(x, y)];
    }

    public void mass(int m) throws IllegalArgumentException {
        requireRange(m, 1, MOST_MASS);
        body.heft = m;
    }

    public int account(int field) throws IllegalArgumentException {
        requireRange(field, 0, 2);
        if (field == 2) {
            return body.moves;
        }
        return field == 0 ? body.first : body.second;
    }

    public void seed(int s) {
        seed = s;
    }

    public int step(int n) throws IllegalArgumentException {
        requireRange(n, 0, MOST_STEPS);
        for (int i = 0; i < n; i++) {
            meet(0);
            fly(0);
            workEdges();
            moveBody();
            time++;
        }
        return time;
    }

    public int back(int n) throws IllegalArgumentException, UnsupportedOperationException {
        requireRange(n, 0, MOST_STEPS);
        requireWallsAlone();
        for (int i = 0; i < n; i++) {
            time--;
            // A wall that turns particles round again gives back what it gave: its book is right.
            workEdges();
            fly(OPPOSITE);
            // The rule in one sense undoes the rule in the other.
            meet(1);
        }
        return time;
    }

    public int sum(int x, int y, int w, int h, int field)
            throws IndexOutOfBoundsException, IllegalArgumentException {
        int corner = cellAt(x, y);
        // The differences cannot overflow, as x + w could.
        if (w <= 0 || h <= 0 || w > grid.columns - x || h > grid.rows - y) {
            throw new IndexOutOfBoundsException();
        }
        requireRange(field, 0, FIELDS - 1);
        int total = 0;
        for (int row = 0; row < h; row++) {
            for (int column = 0; column < w; column++) {
                total += Particles.amount(cellBits[corner + row * Grid.STRIDE + column], field);
            }
        }
        return total;
    }

    public int book(int kind, int field) throws IllegalArgumentException {
        requireRange(kind, 0, Books.KINDS - 1);
        requireRange(field, 0, FIELDS - 1);
        return books.entries[kind * FIELDS + field];
    }

    public int check() {
        int total = 0;
        for (int cell : grid.cells) {
            total += cellBits[cell] * (cell + 1);
        }
        return total;
    }

    public int mark(int x, int y, int kind)
            throws IndexOutOfBoundsException, IllegalArgumentException, NoSuchElementException,
            IllegalStateException, UnsupportedOperationException {
        int cell = cellAt(x, y);
        requireRange(kind, 0, REST);
        if (!Particles.has(cellBits[cell], kind)) {
            throw new NoSuchElementException();
        }
        int place = cell * Marks.PER_CELL + kind;
        if (marks.isOn(place)) {
            throw new IllegalStateException();
        }
        if (marks.count == Marks.MOST) {
            throw new UnsupportedOperationException();
        }
        return marks.put(place);
    }

    public int marked(int mark) throws IndexOutOfBoundsException {
        if (mark < 0 || mark >= marks.count) {
            throw new IndexOutOfBoundsException();
        }
        return marks.places[mark];
    }

    private int cellAt(int x, int y) {
        if (x < 0 || x >= grid.columns || y < 0 || y >= grid.rows) {
            throw new IndexOutOfBoundsException();
        }
        return y * Grid.STRIDE + x;
    }

    private static void requireRange(int value, int least, int most) {
        if (value < least || value > most) {
            throw new IllegalArgumentException();
        }
    }

    private void requireWallsAlone() {
        for (int cell : grid.cells) {
            if (edges[cell] != PLAIN && edges[cell] != WALL) {
                throw new UnsupportedOperationException();
            }
        }
    }

    private boolean changeEdge(int cell, int sort, boolean on) {
        int old = edges[cell];
        if (old != PLAIN && old != sort) {
            throw new IllegalStateException();
        }
        edges[cell] = on ? sort : PLAIN;
        return edges[cell] != old;
    }

    private void meet(int senseChange) {
        for (int cell : grid.cells) {
            int before = cellBits[cell];
            if (before == 0 || edges[cell] == WALL || edges[cell] == BODY) {
                continue;
            }
            int sense = (Grid.xOf(cell) + Grid.yOf(cell) + time + senseChange) & 1;
            int after = Particles.met(before, sense);
            if (after != before) {
                cellBits[cell] = after;
                marks.reorder(cell, before, after);
            }
        }
    }

    private void fly(int turn) {
        Arrays.fill(flownBits, 0);
        for (int cell : grid.cells) {
            int here = cellBits[cell];
            flownBits[cell] |= here & Particles.RESTING;
            // An empty cell needs no look at each kind.
            for (int kind = 0; here != 0 && kind < DIRECTIONS; kind++) {
                if (Particles.has(here, kind)) {
                    flownBits[grid.neighbour(cell, kind + turn)] |= 1 << kind;
                }
            }
        }
        int[] spare = cellBits;
        cellBits = flownBits;
        flownBits = spare;
        marks.fly(grid, turn);
    }

    private void workEdges() {
        for (int cell : grid.cells) {
            switch (edges[cell]) {
                case WALL:
                case BODY:
                    bounce(cell);
                    break;
                case SINK:
                    drain(cell);
                    break;
                case SOURCE:
                    feed(cell);
                    break;
                default:
                    break;
            }
        }
    }

    private void bounce(int cell) {
        give(cell, Particles.reversed(cellBits[cell]));
        marks.reverse(cell);
    }

    private void drain(int cell) {
        give(cell, 0);
        marks.lose(cell);
    }

    private void feed(int cell) {
        int fed = cellBits[cell];
        for (int kind = 0; kind <= REST; kind++) {
            seed = seed * 1103515245 + 12345;
            if (((seed >>> 16) & 255) < rates[cell]) {
                fed |= 1 << kind;
            }
        }
        give(cell, fed);
    }

    private void give(int cell, int after) {
        int before = cellBits[cell];
        books.enter(edges[cell] - 1, before, after);
        if (edges[cell] == BODY) {
            body.pay(before, after);
        }
        cellBits[cell] = after;
    }

    private void moveBody() {
        int direction = body.pushedBy();
        if (direction != NONE && isWayFree(direction)) {
            shiftBody(direction);
            body.payMove(direction);
        }
    }

    private boolean isWayFree(int direction) {
        boolean hasCells = false;
        for (int cell : grid.cells) {
            if (edges[cell] == BODY) {
                hasCells = true;
                int ahead = edges[grid.neighbour(cell, direction)];
                if (ahead != PLAIN && ahead != BODY) {
                    return false;
                }
            }
        }
        return hasCells;
    }

    private void shiftBody(int direction) {
        int gains = 0;
        int gifts = 0;
        for (int cell : grid.cells) {
            boolean was = edges[cell] == BODY;
            boolean becomes = edges[grid.neighbour(cell, direction + OPPOSITE)] == BODY;
            if (becomes && !was) {
                gained[gains] = cell;
                gains++;
            }
            if (was && !becomes) {
                given[gifts] = cell;
                gifts++;
            }
        }
        for (int i = 0; i < gains; i++) {
            changePlaces(gained[i], given[i]);
        }
    }

    private void changePlaces(int newCell, int oldCell) {
        edges[newCell] = BODY;
        edges[oldCell] = PLAIN;
        int kept = cellBits[newCell];
        cellBits[newCell] = cellBits[oldCell];
        cellBits[oldCell] = kept;
        marks.exchange(newCell, oldCell);
    }

    /** Which cells there are, and which are neighbours. */
    private static final class Grid {
        static final int STRIDE = 16;
        static final int SIZE = 256;
        private static final int USUAL = 8;

        final int columns;
        final int rows;
        /** The numbers of all cells, row by row. */
        final int[] cells;
        private final int[] neighbours;

        Grid(int w, int h) {
            columns = isLength(w) ? w : USUAL;
            rows = isLength(h) ? h : USUAL;
            cells = new int[columns * rows];
            neighbours = new int[SIZE * DIRECTIONS];
            for (int i = 0; i < cells.length; i++) {
                int cell = i / columns * STRIDE + i % columns;
                cells[i] = cell;
                for (int direction = 0; direction < DIRECTIONS; direction++) {
                    neighbours[cell * DIRECTIONS + direction] = cellBeside(cell, direction);
                }
            }
        }

        static int xOf(int cell) {
            return cell % STRIDE;
        }

        static int yOf(int cell) {
            return cell / STRIDE;
        }

        /** The direction may be any number from 0 on: it counts modulo 6. */
        int neighbour(int cell, int direction) {
            return neighbours[cell * DIRECTIONS + direction % DIRECTIONS];
        }

        private static boolean isLength(int length) {
            return length >= 4 && length <= STRIDE && length % 2 == 0;
        }

        private int cellBeside(int cell, int direction) {
            int x = xOf(cell) + columnChange(yOf(cell), direction);
            int y = yOf(cell) + rowChange(direction);
            return (y + rows) % rows * STRIDE + (x + columns) % columns;
        }

        private static int rowChange(int direction) {
            switch (direction) {
                case 1:
                case 2:
                    return -1;
                case 4:
                case 5:
                    return 1;
                default:
                    return 0;
            }
        }

        private static int columnChange(int y, int direction) {
            int odd = y & 1;
            switch (direction) {
                case 0:
                    return 1;
                case 3:
                    return -1;
                case 1:
                case 5:
                    return odd;
                default:
                    return odd - 1;
            }
        }
    }

    /** What can be told from a cell's bits alone. */
    private static final class Particles {
        static final int RESTING = 64;
        private static final int FLYING = 63;
        private static final int EVEN_KINDS = 21;
        private static final int ODD_KINDS = 42;

        /** For each field (number, momentum) the kinds that count 1, and those that count -1. */
        private static final int[] PLUS = {127, 33, 6};
        private static final int[] MINUS = {0, 12, 48};

        static boolean has(int bits, int kind) {
            return (bits >> kind & 1) == 1;
        }

        static int amount(int bits, int field) {
            return Integer.bitCount(bits & PLUS[field]) - Integer.bitCount(bits & MINUS[field]);
        }

        static int reversed(int bits) {
            return bits & RESTING | turned(bits & FLYING, OPPOSITE);
        }

        static int met(int bits, int sense) {
            int flying = bits & FLYING;
            int resting = bits & RESTING;
            if (isHeadOn(flying) || isHeadOn(FLYING - flying)) {
                return resting | turned(flying, sense == 0 ? 1 : DIRECTIONS - 1);
            }
            if (flying == EVEN_KINDS || flying == ODD_KINDS) {
                return resting | FLYING - flying;
            }
            int left = turned(flying, 1);
            int right = turned(flying, DIRECTIONS - 1);
            int flyers = Integer.bitCount(flying);
            if (flyers == 1 && resting != 0) {
                return left | right;
            }
            // Of two flying kinds these have one in common just when one kind lies between them.
            int between = left & right;
            if (flyers == 2 && resting == 0 && between != 0) {
                return between | RESTING;
            }
            return bits;
        }

        /** How many particles of lower kinds the bits have. */
        static int rank(int bits, int kind) {
            return Integer.bitCount(bits & ((1 << kind) - 1));
        }

        /** The kind of the particle below which there are rank others. */
        static int kindOf(int bits, int rank) {
            for (int kind = 0; kind < REST; kind++) {
                if (has(bits, kind) && rank(bits, kind) == rank) {
                    return kind;
                }
            }
            return REST;
        }

        private static boolean isHeadOn(int flying) {
            return flying == 9 || flying == 18 || flying == 36;
        }

        private static int turned(int flying, int by) {
            return (flying << by | flying >> DIRECTIONS - by) & FLYING;
        }
    }

    /** What walls, sources, sinks and the body gave. */
    private static final class Books {
        static final int KINDS = 4;

        final int[] entries = new int[KINDS * FIELDS];

        void enter(int kind, int before, int after) {
            for (int field = 0; field < FIELDS; field++) {
                entries[kind * FIELDS + field] +=
                        Particles.amount(after, field) - Particles.amount(before, field);
            }
        }
    }

    /** What the body has as a whole: its cells are among the edges. */
    private static final class Body {
        int heft = 100;
        int first;
        int second;
        int moves;

        void pay(int before, int after) {
            first -= Particles.amount(after, 1) - Particles.amount(before, 1);
            second -= Particles.amount(after, 2) - Particles.amount(before, 2);
        }

        int pushedBy() {
            for (int direction = 0; direction < DIRECTIONS; direction++) {
                if (along(direction) >= 2 * heft) {
                    return direction;
                }
            }
            return NONE;
        }

        void payMove(int direction) {
            first -= heft * Particles.amount(1 << direction, 1);
            second -= heft * Particles.amount(1 << direction, 2);
            moves++;
        }

        private int along(int direction) {
            switch (direction) {
                case 0:
                    return 2 * first + second;
                case 1:
                    return first + 2 * second;
                case 2:
                    return second - first;
                case 3:
                    return -2 * first - second;
                case 4:
                    return -first - 2 * second;
                default:
                    return first - second;
            }
        }
    }

    /** Where the marked particles are: their places, NONE for a lost one. */
    private static final class Marks {
        static final int MOST = 4;
        /** One more place than a cell has kinds, as marked() counts them. */
        static final int PER_CELL = 8;

        final int[] places = new int[MOST];
        int count;

        boolean isOn(int place) {
            for (int i = 0; i < count; i++) {
                if (places[i] == place) {
                    return true;
                }
            }
            return false;
        }

        int put(int place) {
            places[count] = place;
            count++;
            return count - 1;
        }

        void lose(int cell) {
            for (int i = 0; i < count; i++) {
                if (isIn(i, cell)) {
                    places[i] = NONE;
                }
            }
        }

        void reorder(int cell, int before, int after) {
            for (int i = 0; i < count; i++) {
                if (isIn(i, cell)) {
                    int rank = Particles.rank(before, kindOn(i));
                    places[i] = cell * PER_CELL + Particles.kindOf(after, rank);
                }
            }
        }

        void fly(Grid grid, int turn) {
            for (int i = 0; i < count; i++) {
                int kind = kindOn(i);
                if (places[i] != NONE && kind < REST) {
                    places[i] = grid.neighbour(places[i] / PER_CELL, kind + turn) * PER_CELL + kind;
                }
            }
        }

        void reverse(int cell) {
            for (int i = 0; i < count; i++) {
                int kind = kindOn(i);
                if (isIn(i, cell) && kind < REST) {
                    places[i] = cell * PER_CELL + (kind + OPPOSITE) % DIRECTIONS;
                }
            }
        }

        void exchange(int oneCell, int otherCell) {
            for (int i = 0; i < count; i++) {
                if (isIn(i, oneCell)) {
                    places[i] = otherCell * PER_CELL + kindOn(i);
                } else if (isIn(i, otherCell)) {
                    places[i] = oneCell * PER_CELL + kindOn(i);
                }
            }
        }

        private boolean isIn(int i, int cell) {
            return places[i] != NONE && places[i] / PER_CELL == cell;
        }

        private int kindOn(int i) {
            return places[i] & PER_CELL - 1;
        }
    }
}
