import java.util.ArrayList;
import java.util.Comparator;
import java.util.HashMap;
import java.util.HashSet;
import java.util.List;
import java.util.Map;
import java.util.NoSuchElementException;
import java.util.Set;
import java.util.TreeSet;

/**
 * The document once more, as plainly and as slowly as it is written there: particles are objects,
 * books are kept by counting the whole grid, and the rule is undone by a search for what it was.
 */
final class PlainGas {
    private record Cell(int x, int y) { }

    private static final class Particle {
        Cell at;
        int kind;
        boolean isLost;

        Particle(Cell at, int kind) {
            this.at = at;
            this.kind = kind;
        }
    }

    private enum Edge { NONE, WALL, SOURCE, SINK, BODY }

    private static final int[][] MOMENTUM = {{1, 0}, {0, 1}, {-1, 1}, {-1, 0}, {0, -1}, {1, -1}, {0, 0}};

    private final int columns;
    private final int rows;
    private List<Particle> particles = new ArrayList<>();
    private final Map<Cell, Edge> edges = new HashMap<>();
    private final Map<Cell, Integer> rates = new HashMap<>();
    private final List<Particle> marks = new ArrayList<>();
    private final long[][] books = new long[5][3];
    private final long[] account = new long[3];
    private int heft = 100;
    private int seed;
    private int time;

    PlainGas(int w, int h) {
        columns = Set.of(4, 6, 8, 10, 12, 14, 16).contains(w) ? w : 8;
        rows = Set.of(4, 6, 8, 10, 12, 14, 16).contains(h) ? h : 8;
    }

    int columns() {
        return columns;
    }

    int rows() {
        return rows;
    }

    void set(int x, int y, int bits) {
        Cell cell = cell(x, y);
        demand(bits >= 0 && bits < 128);
        for (Particle particle : in(cell)) {
            particle.isLost = true;
            particles.remove(particle);
        }
        for (int kind : kinds(bits)) {
            particles.add(new Particle(cell, kind));
        }
    }

    int get(int x, int y) {
        return bits(cell(x, y));
    }

    int rule(int bits, int sense) {
        demand(bits >= 0 && bits < 128 && (sense == 0 || sense == 1));
        return becomes(bits, sense);
    }

    boolean wall(int x, int y, boolean on) {
        return change(cell(x, y), Edge.WALL, on);
    }

    void source(int x, int y, int rate) {
        Cell cell = cell(x, y);
        demand(rate >= 0 && rate <= 256);
        change(cell, Edge.SOURCE, rate != 0);
        rates.put(cell, rate);
    }

    boolean sink(int x, int y, boolean on) {
        return change(cell(x, y), Edge.SINK, on);
    }

    boolean body(int x, int y, boolean on) {
        return change(cell(x, y), Edge.BODY, on);
    }

    int edge(int x, int y) {
        return edgeOf(cell(x, y)).ordinal();
    }

    void mass(int m) {
        demand(m >= 1 && m <= 10000);
        heft = m;
    }

    int account(int field) {
        demand(field >= 0 && field <= 2);
        return (int) account[field];
    }

    void seed(int s) {
        seed = s;
    }

    int step(int n) {
        demand(n >= 0 && n <= 64);
        for (int i = 0; i < n; i++) {
            meeting(false);
            flight(0);
            edges();
            moveBody();
            time += 1;
        }
        return time;
    }

    int back(int n) {
        demand(n >= 0 && n <= 64);
        for (Edge edge : edges.values()) {
            if (edge == Edge.SOURCE || edge == Edge.SINK || edge == Edge.BODY) {
                throw new UnsupportedOperationException();
            }
        }
        for (int i = 0; i < n; i++) {
            time -= 1;
            for (Cell cell : allCells()) {
                if (edgeOf(cell) == Edge.WALL) {
                    long[] after = totals();
                    turnRound(cell);
                    long[] before = totals();
                    for (int field = 0; field < 3; field++) {
                        books[0][field] -= after[field] - before[field];
                    }
                }
            }
            flight(3);
            meeting(true);
        }
        return time;
    }

    int sum(int x, int y, int w, int h, int field) {
        cell(x, y);
        long lastX = (long) x + w - 1;
        long lastY = (long) y + h - 1;
        if (w <= 0 || h <= 0 || lastX >= columns || lastY >= rows) {
            throw new IndexOutOfBoundsException();
        }
        demand(field >= 0 && field <= 2);
        int total = 0;
        for (Particle p : particles) {
            if (p.at.x >= x && p.at.x <= lastX && p.at.y >= y && p.at.y <= lastY) {
                total += field == 0 ? 1 : MOMENTUM[p.kind][field - 1];
            }
        }
        return total;
    }

    int book(int kind, int field) {
        demand(kind >= 0 && kind <= 3 && field >= 0 && field <= 2);
        return (int) books[kind][field];
    }

    int check() {
        int total = 0;
        for (Particle p : particles) {
            total += (1 << p.kind) * (p.at.y * 16 + p.at.x + 1);
        }
        return total;
    }

    int mark(int x, int y, int kind) {
        Cell cell = cell(x, y);
        demand(kind >= 0 && kind <= 6);
        for (Particle particle : in(cell)) {
            if (particle.kind == kind) {
                if (marks.contains(particle)) {
                    throw new IllegalStateException();
                }
                if (marks.size() == 4) {
                    throw new UnsupportedOperationException();
                }
                marks.add(particle);
                return marks.size() - 1;
            }
        }
        throw new NoSuchElementException();
    }

    int marked(int mark) {
        if (mark < 0 || mark >= marks.size()) {
            throw new IndexOutOfBoundsException();
        }
        Particle particle = marks.get(mark);
        return particle.isLost ? -1 : 128 * particle.at.y + 8 * particle.at.x + particle.kind;
    }

    private static void demand(boolean holds) {
        if (!holds) {
            throw new IllegalArgumentException();
        }
    }

    private Cell cell(int x, int y) {
        Cell cell = new Cell(x, y);
        if (!allCells().contains(cell)) {
            throw new IndexOutOfBoundsException();
        }
        return cell;
    }

    private List<Cell> allCells() {
        List<Cell> all = new ArrayList<>();
        for (int y = 0; y < rows; y++) {
            for (int x = 0; x < columns; x++) {
                all.add(new Cell(x, y));
            }
        }
        return all;
    }

    private Edge edgeOf(Cell cell) {
        return edges.getOrDefault(cell, Edge.NONE);
    }

    private boolean change(Cell cell, Edge edge, boolean on) {
        boolean is = edgeOf(cell) == edge;
        if (!is && edgeOf(cell) != Edge.NONE) {
            throw new IllegalStateException();
        }
        edges.put(cell, on ? edge : Edge.NONE);
        return is != on;
    }

    private List<Particle> in(Cell cell) {
        List<Particle> found = new ArrayList<>();
        for (Particle particle : particles) {
            if (particle.at.equals(cell)) {
                found.add(particle);
            }
        }
        found.sort(Comparator.comparingInt(particle -> particle.kind));
        return found;
    }

    private int bits(Cell cell) {
        int bits = 0;
        for (Particle particle : in(cell)) {
            bits += 1 << particle.kind;
        }
        return bits;
    }

    private static Set<Integer> kinds(int bits) {
        Set<Integer> kinds = new TreeSet<>();
        for (int kind = 0; kind < 7; kind++) {
            if ((bits & 1 << kind) != 0) {
                kinds.add(kind);
            }
        }
        return kinds;
    }

    private static Set<Integer> flying(int... some) {
        Set<Integer> kinds = new TreeSet<>();
        for (int kind : some) {
            kinds.add(Math.floorMod(kind, 6));
        }
        return kinds;
    }

    private static int becomes(int bits, int sense) {
        Set<Integer> flying = kinds(bits & 63);
        boolean rests = bits >= 64;
        for (int d = 0; d < 6; d++) {
            Set<Integer> rest = flying(0, 1, 2, 3, 4, 5);
            rest.removeAll(flying(d, d + 3));
            if (flying.equals(flying(d, d + 3)) || flying.equals(rest)) {
                int become = bits & 64;
                for (int k : flying) {
                    become += 1 << Math.floorMod(sense == 0 ? k + 1 : k - 1, 6);
                }
                return become;
            }
            if (rests && flying.equals(flying(d))) {
                return (1 << Math.floorMod(d - 1, 6)) + (1 << Math.floorMod(d + 1, 6));
            }
            if (!rests && flying.equals(flying(d - 1, d + 1))) {
                return (1 << d) + 64;
            }
        }
        if (flying.equals(flying(0, 2, 4)) || flying.equals(flying(1, 3, 5))) {
            return bits & 64 | 63 - (bits & 63);
        }
        return bits;
    }

    private static int was(int bits, int sense) {
        for (int before = 0; before < 128; before++) {
            if (becomes(before, sense) == bits) {
                return before;
            }
        }
        throw new AssertionError("nothing becomes " + bits);
    }

    private void meeting(boolean undone) {
        for (Cell cell : allCells()) {
            if (edgeOf(cell) == Edge.WALL || edgeOf(cell) == Edge.BODY) {
                continue;
            }
            int sense = Math.floorMod(cell.x + cell.y + time, 2);
            int become = undone ? was(bits(cell), sense) : becomes(bits(cell), sense);
            List<Integer> kinds = new ArrayList<>(kinds(become));
            List<Particle> here = in(cell);
            for (int k = 0; k < here.size(); k++) {
                here.get(k).kind = kinds.get(k);
            }
        }
    }

    /** By axial coordinates, in which a direction means the same change in every row. */
    private Cell neighbour(Cell cell, int direction) {
        int[] changeQ = {1, 1, 0, -1, -1, 0};
        int[] changeR = {0, -1, -1, 0, 1, 1};
        int q = cell.x - Math.floorDiv(cell.y, 2) + changeQ[direction];
        int r = cell.y + changeR[direction];
        return new Cell(Math.floorMod(q + Math.floorDiv(r, 2), columns), Math.floorMod(r, rows));
    }

    private void flight(int turn) {
        for (Particle particle : particles) {
            if (particle.kind < 6) {
                particle.at = neighbour(particle.at, (particle.kind + turn) % 6);
            }
        }
    }

    private long[] totals() {
        long[] totals = new long[3];
        for (Particle particle : particles) {
            totals[0] += 1;
            totals[1] += MOMENTUM[particle.kind][0];
            totals[2] += MOMENTUM[particle.kind][1];
        }
        return totals;
    }

    private void edges() {
        for (Cell cell : allCells()) {
            Edge edge = edgeOf(cell);
            if (edge == Edge.NONE) {
                continue;
            }
            long[] before = totals();
            work(edge, cell);
            long[] after = totals();
            for (int field = 0; field < 3; field++) {
                books[edge.ordinal() - 1][field] += after[field] - before[field];
            }
            if (edge == Edge.BODY) {
                account[0] -= after[1] - before[1];
                account[1] -= after[2] - before[2];
            }
        }
    }

    private void work(Edge edge, Cell cell) {
        if (edge == Edge.WALL || edge == Edge.BODY) {
            turnRound(cell);
        } else if (edge == Edge.SINK) {
            for (Particle particle : in(cell)) {
                particle.isLost = true;
                particles.remove(particle);
            }
        } else {
            for (int kind = 0; kind < 7; kind++) {
                seed = seed * 1103515245 + 12345;
                boolean isThere = kinds(bits(cell)).contains(kind);
                if ((seed >>> 16 & 255) < rates.get(cell) && !isThere) {
                    particles.add(new Particle(cell, kind));
                }
            }
        }
    }

    private void turnRound(Cell cell) {
        for (Particle particle : in(cell)) {
            if (particle.kind < 6) {
                particle.kind = (particle.kind + 3) % 6;
            }
        }
    }

    private void moveBody() {
        long p = account[0];
        long q = account[1];
        long[] along = {2 * p + q, p + 2 * q, q - p, -2 * p - q, -p - 2 * q, p - q};
        int d = 0;
        while (d < 6 && along[d] < 2 * heft) {
            d++;
        }
        Set<Cell> old = new HashSet<>();
        for (Cell cell : allCells()) {
            if (edgeOf(cell) == Edge.BODY) {
                old.add(cell);
            }
        }
        if (d == 6 || old.isEmpty()) {
            return;
        }
        Set<Cell> now = new HashSet<>();
        for (Cell cell : old) {
            now.add(neighbour(cell, d));
        }
        for (Cell cell : now) {
            if (edgeOf(cell) != Edge.NONE && edgeOf(cell) != Edge.BODY) {
                return;
            }
        }
        List<Cell> became = allCells();
        became.removeIf(cell -> !now.contains(cell) || old.contains(cell));
        List<Cell> ceased = allCells();
        ceased.removeIf(cell -> !old.contains(cell) || now.contains(cell));
        for (int i = 0; i < became.size(); i++) {
            List<Particle> some = in(became.get(i));
            List<Particle> others = in(ceased.get(i));
            for (Particle particle : some) {
                particle.at = ceased.get(i);
            }
            for (Particle particle : others) {
                particle.at = became.get(i);
            }
            edges.put(became.get(i), Edge.BODY);
            edges.put(ceased.get(i), Edge.NONE);
        }
        account[0] -= (long) heft * MOMENTUM[d][0];
        account[1] -= (long) heft * MOMENTUM[d][1];
        account[2] += 1;
    }
}
