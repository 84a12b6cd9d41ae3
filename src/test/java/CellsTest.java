/** Promises 1 (a new object), 2 (set), 3 (get), 15 (sum) and 17 (check). */
public final class CellsTest {
    private static final Due DUE = new Due();

    public static void main(String[] args) {
        sizes();
        newObject();
        setAndGet();
        refusedCells();
        sums();
        refusedSums();
        checks();
        DUE.end();
    }

    private static void sizes() {
        for (int length : new int[] {4, 6, 8, 10, 12, 14, 16}) {
            hasSize(length, 8, length, 8);
            hasSize(8, length, 8, length);
            hasSize(length, 20 - length, length, 20 - length);
        }
        for (int length : new int[] {0, 1, 2, 3, 5, 7, 9, 15, 17, 18, -1, -4, -8, 1 << 20,
            Integer.MIN_VALUE, Integer.MAX_VALUE}) {
            hasSize(length, 4, 8, 4);
            hasSize(16, length, 16, 8);
            hasSize(length, length, 8, 8);
        }
    }

    private static void hasSize(int w, int h, int columns, int rows) {
        SixWayGas gas = new SixWayGas(w, h);
        String name = "new " + w + ", " + h + ": ";
        DUE.equal(name + "last cell", gas.get(columns - 1, rows - 1), 0);
        DUE.equal(name + "sum over all", gas.sum(0, 0, columns, rows, 0), 0);
        DUE.outOfBounds(name + "column behind the last", () -> gas.get(columns, 0));
        DUE.outOfBounds(name + "row behind the last", () -> gas.get(0, rows));
    }

    private static void newObject() {
        SixWayGas gas = new SixWayGas(10, 6);
        for (int y = 0; y < 6; y++) {
            for (int x = 0; x < 10; x++) {
                DUE.equal("new get " + x + ", " + y, gas.get(x, y), 0);
                DUE.equal("new edge " + x + ", " + y, gas.edge(x, y), 0);
            }
        }
        for (int field = 0; field < 3; field++) {
            DUE.equal("new account " + field, gas.account(field), 0);
            for (int kind = 0; kind < 4; kind++) {
                DUE.equal("new book " + kind + ", " + field, gas.book(kind, field), 0);
            }
        }
        DUE.equal("new check", gas.check(), 0);
        DUE.equal("new time", gas.step(0), 0);
        DUE.outOfBounds("new marked 0", () -> gas.marked(0));
    }

    private static void setAndGet() {
        SixWayGas gas = new SixWayGas(4, 6);
        for (int bits = 0; bits <= 127; bits++) {
            gas.set(3, 5, bits);
            DUE.equal("get of " + bits, gas.get(3, 5), bits);
        }
        gas.set(0, 5, 1);
        gas.set(3, 0, 2);
        DUE.equal("its own bits", gas.get(3, 5), 127);
        gas.wall(1, 1, true);
        gas.set(1, 1, 77);
        DUE.equal("a wall's bits", gas.get(1, 1), 77);
        DUE.equal("still a wall", gas.edge(1, 1), 1);
        for (int bits : new int[] {-1, 128, 255, Integer.MIN_VALUE, Integer.MAX_VALUE}) {
            DUE.badArgument("set of " + bits, () -> gas.set(3, 5, bits));
            DUE.outOfBounds("set of " + bits + " outside", () -> gas.set(4, 5, bits));
        }
        DUE.equal("bits behind refused calls", gas.get(3, 5), 127);
    }

    private static void refusedCells() {
        SixWayGas gas = new SixWayGas(4, 6);
        int[][] outside = {{-1, 0}, {0, -1}, {4, 0}, {0, 6}, {5, 3}, {16, 0}, {0, 16},
            {Integer.MIN_VALUE, 0}, {0, Integer.MAX_VALUE}};
        for (int[] at : outside) {
            String name = " at " + at[0] + ", " + at[1];
            DUE.outOfBounds("set" + name, () -> gas.set(at[0], at[1], 1));
            DUE.outOfBounds("get" + name, () -> gas.get(at[0], at[1]));
            DUE.outOfBounds("wall" + name, () -> gas.wall(at[0], at[1], true));
            DUE.outOfBounds("source" + name, () -> gas.source(at[0], at[1], 999));
            DUE.outOfBounds("sink" + name, () -> gas.sink(at[0], at[1], true));
            DUE.outOfBounds("body" + name, () -> gas.body(at[0], at[1], true));
            DUE.outOfBounds("edge" + name, () -> gas.edge(at[0], at[1]));
            DUE.outOfBounds("sum" + name, () -> gas.sum(at[0], at[1], 1, 1, 9));
            DUE.outOfBounds("mark" + name, () -> gas.mark(at[0], at[1], 9));
        }
        DUE.equal("check behind refused calls", gas.check(), 0);
        DUE.equal("no source, sink or body came", gas.back(0), 0);
    }

    private static void sums() {
        int[][] momentum = {{1, 0}, {0, 1}, {-1, 1}, {-1, 0}, {0, -1}, {1, -1}, {0, 0}};
        SixWayGas gas = new SixWayGas(8, 6);
        for (int kind = 0; kind < 7; kind++) {
            gas.set(2, 1, 1 << kind);
            DUE.equal("number of kind " + kind, gas.sum(2, 1, 1, 1, 0), 1);
            DUE.equal("first momentum of kind " + kind, gas.sum(2, 1, 1, 1, 1), momentum[kind][0]);
            DUE.equal("second momentum of kind " + kind, gas.sum(2, 1, 1, 1, 2), momentum[kind][1]);
        }
        gas.set(2, 1, 127);
        DUE.equal("number of all kinds", gas.sum(0, 0, 8, 6, 0), 7);
        DUE.equal("momentum of all kinds", gas.sum(0, 0, 8, 6, 1), 0);
        gas.set(2, 1, 0);
        gas.set(1, 1, 1);
        gas.set(4, 3, 1 | 2 | 64);
        gas.set(7, 5, 4);
        DUE.equal("number in 1..4 x 1..3", gas.sum(1, 1, 4, 3, 0), 4);
        DUE.equal("first momentum there", gas.sum(1, 1, 4, 3, 1), 2);
        DUE.equal("second momentum there", gas.sum(1, 1, 4, 3, 2), 1);
        DUE.equal("number in 2..4 x 1..3", gas.sum(2, 1, 3, 3, 0), 3);
        DUE.equal("number in 1..3 x 1..3", gas.sum(1, 1, 3, 3, 0), 1);
        DUE.equal("number in 1..4 x 1..2", gas.sum(1, 1, 4, 2, 0), 1);
        DUE.equal("the last cell", gas.sum(7, 5, 1, 1, 1), -1);
        DUE.equal("number of all", gas.sum(0, 0, 8, 6, 0), 5);
        gas.wall(4, 3, true);
        DUE.equal("a wall's particles, too", gas.sum(4, 3, 1, 1, 0), 3);
    }

    private static void refusedSums() {
        SixWayGas gas = new SixWayGas(8, 6);
        int[][] rectangles = {{0, 0, 9, 6}, {0, 0, 8, 7}, {1, 0, 8, 6}, {0, 1, 8, 6}, {7, 5, 2, 1}, {7, 5, 1, 2},
            {0, 0, 0, 1}, {0, 0, 1, 0}, {0, 0, -1, 1}, {0, 0, 1, -1}, {3, 3, Integer.MAX_VALUE, 1},
            {3, 3, 1, Integer.MAX_VALUE}, {3, 3, Integer.MIN_VALUE, 1}, {3, 3, 1, Integer.MIN_VALUE}};
        for (int[] r : rectangles) {
            for (int field : new int[] {0, 3}) {
                DUE.outOfBounds("sum of " + r[0] + ", " + r[1] + ", " + r[2] + ", " + r[3],
                        () -> gas.sum(r[0], r[1], r[2], r[3], field));
            }
        }
        for (int field : new int[] {-1, 3, Integer.MIN_VALUE, Integer.MAX_VALUE}) {
            DUE.badArgument("sum of field " + field, () -> gas.sum(0, 0, 8, 6, field));
        }
    }

    private static void checks() {
        SixWayGas gas = new SixWayGas(4, 16);
        gas.set(0, 0, 3);
        DUE.equal("check of the first cell", gas.check(), 3);
        gas.set(3, 15, 127);
        DUE.equal("check of first and last", gas.check(), 3 + 127 * (15 * 16 + 4));
        gas.set(2, 1, 64);
        DUE.equal("check of three cells", gas.check(), 3 + 127 * 244 + 64 * 19);
        gas.set(0, 0, 0);
        DUE.equal("check less the first", gas.check(), 127 * 244 + 64 * 19);
    }
}
