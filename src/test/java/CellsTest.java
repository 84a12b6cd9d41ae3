/** Promises 1 (a new object), 2 (set), 3 (get), 15 (sum) and 17 (check). */
public final class CellsTest {
    private static final Due DUE = new Due();

    public static void main(String[] args) {
        sizes();
        newObject();
        setAndGet();
        refusedCells();
        firstAndLastCells();
        sums();
        everyRectangle();
        refusedSums();
        checks();
        fullGrid();
        DUE.end();
    }

    private static void sizes() {
        for (int length : new int[] {4, 6, 8, 10, 12, 14, 16}) {
            hasSize(length, 8, length, 8);
            hasSize(8, length, 8, length);
            hasSize(length, 20 - length, length, 20 - length);
        }
        for (int length : new int[] {0, 1, 2, 3, 5, 7, 9, 15, 17, 18, -1, -4, -8, 1 << 20,
            Integer.MIN_VALUE, Integer.MAX_VALUE}) {
            hasSize(length, 4, 8, 4);
            hasSize(16, length, 16, 8);
            hasSize(length, length, 8, 8);
        }
    }

    private static void hasSize(int w, int h, int columns, int rows) {
        SixWayGas gas = new SixWayGas(w, h);
        String name = "new " + w + ", " + h + ": ";
        DUE.equal(name + "last cell", gas.get(columns - 1, rows - 1), 0);
        DUE.equal(name + "sum over all", gas.sum(0, 0, columns, rows, 0), 0);
        DUE.outOfBounds(name + "column behind the last", () -> gas.get(columns, 0));
        DUE.outOfBounds(name + "row behind the last", () -> gas.get(0, rows));
    }

    private static void newObject() {
        SixWayGas gas = new SixWayGas(10, 6);
        for (int y = 0; y < 6; y++) {
            for (int x = 0; x < 10; x++) {
                DUE.equal("new get " + x + ", " + y, gas.get(x, y), 0);
                DUE.equal("new edge " + x + ", " + y, gas.edge(x, y), 0);
            }
        }
        for (int field = 0; field < 3; field++) {
            DUE.equal("new account " + field, gas.account(field), 0);
            for (int kind = 0; kind < 4; kind++) {
                DUE.equal("new book " + kind + ", " + field, gas.book(kind, field), 0);
            }
        }
        DUE.equal("new check", gas.check(), 0);
        DUE.equal("new time", gas.step(0), 0);
        DUE.outOfBounds("new marked 0", () -> gas.marked(0));
    }

    private static void setAndGet() {
        SixWayGas gas = new SixWayGas(4, 6);
        for (int bits = 0; bits <= 127; bits++) {
            gas.set(3, 5, bits);
            DUE.equal("get of " + bits, gas.get(3, 5), bits);
        }
        gas.set(0, 5, 1);
        gas.set(3, 0, 2);
        DUE.equal("its own bits", gas.get(3, 5), 127);
        gas.wall(1, 1, true);
        gas.set(1, 1, 77);
        DUE.equal("a wall's bits", gas.get(1, 1), 77);
        DUE.equal("still a wall", gas.edge(1, 1), 1);
        for (int bits : new int[] {-1, 128, 255, Integer.MIN_VALUE, Integer.MAX_VALUE}) {
            DUE.badArgument("set of " + bits, () -> gas.set(3, 5, bits));
            DUE.outOfBounds("set of " + bits + " outside", () -> gas.set(4, 5, bits));
        }
        DUE.equal("bits behind refused calls", gas.get(3, 5), 127);
    }

    private static void refusedCells() {
        SixWayGas gas = new SixWayGas(4, 6);
        int[][] outside = {{-1, 0}, {0, -1}, {4, 0}, {0, 6}, {5, 3}, {16, 0}, {0, 16},
            {Integer.MIN_VALUE, 0}, {0, Integer.MAX_VALUE}};
        for (int[] at : outside) {
            String name = " at " + at[0] + ", " + at[1];
            DUE.outOfBounds("set" + name, () -> gas.set(at[0], at[1], 1));
            DUE.outOfBounds("get" + name, () -> gas.get(at[0], at[1]));
            DUE.outOfBounds("wall" + name, () -> gas.wall(at[0], at[1], true));
            DUE.outOfBounds("source" + name, () -> gas.source(at[0], at[1], 999));
            DUE.outOfBounds("sink" + name, () -> gas.sink(at[0], at[1], true));
            DUE.outOfBounds("body" + name, () -> gas.body(at[0], at[1], true));
            DUE.outOfBounds("edge" + name, () -> gas.edge(at[0], at[1]));
            DUE.outOfBounds("sum" + name, () -> gas.sum(at[0], at[1], 1, 1, 9));
            DUE.outOfBounds("mark" + name, () -> gas.mark(at[0], at[1], 9));
        }
        DUE.equal("check behind refused calls", gas.check(), 0);
        DUE.equal("no source, sink or body came", gas.back(0), 0);
    }

    /** The cells just inside the grid are taken by every call for a cell, on all sizes. */
    private static void firstAndLastCells() {
        for (int w = 4; w <= 16; w += 2) {
            for (int h = 4; h <= 16; h += 2) {
                SixWayGas gas = new SixWayGas(w, h);
                takesEveryCall(gas, 0, 0);
                takesEveryCall(gas, w - 1, 0);
                takesEveryCall(gas, 0, h - 1);
                takesEveryCall(gas, w - 1, h - 1);
            }
        }
    }

    private static void takesEveryCall(SixWayGas gas, int x, int y) {
        String name = " at " + x + ", " + y;
        gas.set(x, y, 127);
        DUE.equal("get" + name, gas.get(x, y), 127);
        DUE.equal("marked" + name, gas.marked(gas.mark(x, y, 6)), Hex.place(x, y, 6));
        DUE.equal("sum" + name, gas.sum(x, y, 1, 1, 0), 7);
        DUE.yes("wall" + name, gas.wall(x, y, true) && gas.wall(x, y, false));
        gas.source(x, y, 256);
        DUE.equal("edge" + name, gas.edge(x, y), 2);
        gas.source(x, y, 0);
        DUE.yes("sink" + name, gas.sink(x, y, true) && gas.sink(x, y, false));
        DUE.yes("body" + name, gas.body(x, y, true) && gas.body(x, y, false));
    }

    /** Rectangles of all widths and heights from all cells, those just outside among them. */
    private static void everyRectangle() {
        for (int x = 0; x < 4; x++) {
            for (int y = 0; y < 6; y++) {
                everyRectangleFrom(x, y);
            }
        }
    }

    private static void everyRectangleFrom(int x, int y) {
        SixWayGas gas = new SixWayGas(4, 6);
        for (int i = 0; i < 24; i++) {
            gas.set(i % 4, i / 4, 127);
        }
        for (int w = -1; w <= 5; w++) {
            for (int h = -1; h <= 7; h++) {
                isRectangle(gas, x, y, w, h, w > 0 && h > 0 && x + w <= 4 && y + h <= 6);
            }
        }
    }

    private static void isRectangle(SixWayGas gas, int x, int y, int w, int h, boolean isOne) {
        String name = "sum of " + x + ", " + y + ", " + w + ", " + h;
        if (isOne) {
            DUE.equal(name, gas.sum(x, y, w, h, 0), 7 * w * h);
        } else {
            DUE.outOfBounds(name, () -> gas.sum(x, y, w, h, 0));
        }
    }

    private static void sums() {
        int[][] momentum = {{1, 0}, {0, 1}, {-1, 1}, {-1, 0}, {0, -1}, {1, -1}, {0, 0}};
        SixWayGas gas = new SixWayGas(8, 6);
        for (int kind = 0; kind < 7; kind++) {
            gas.set(2, 1, 1 << kind);
            DUE.equal("number of kind " + kind, gas.sum(2, 1, 1, 1, 0), 1);
            DUE.equal("first momentum of kind " + kind, gas.sum(2, 1, 1, 1, 1), momentum[kind][0]);
            DUE.equal("second momentum of kind " + kind, gas.sum(2, 1, 1, 1, 2), momentum[kind][1]);
        }
        gas.set(2, 1, 127);
        DUE.equal("number of all kinds", gas.sum(0, 0, 8, 6, 0), 7);
        DUE.equal("momentum of all kinds", gas.sum(0, 0, 8, 6, 1), 0);
        gas.set(2, 1, 0);
        gas.set(1, 1, 1);
        gas.set(4, 3, 1 | 2 | 64);
        gas.set(7, 5, 4);
        DUE.equal("number in 1..4 x 1..3", gas.sum(1, 1, 4, 3, 0), 4);
        DUE.equal("first momentum there", gas.sum(1, 1, 4, 3, 1), 2);
        DUE.equal("second momentum there", gas.sum(1, 1, 4, 3, 2), 1);
        DUE.equal("number in 2..4 x 1..3", gas.sum(2, 1, 3, 3, 0), 3);
        DUE.equal("number in 1..3 x 1..3", gas.sum(1, 1, 3, 3, 0), 1);
        DUE.equal("number in 1..4 x 1..2", gas.sum(1, 1, 4, 2, 0), 1);
        DUE.equal("the last cell", gas.sum(7, 5, 1, 1, 1), -1);
        DUE.equal("number of all", gas.sum(0, 0, 8, 6, 0), 5);
        gas.wall(4, 3, true);
        DUE.equal("a wall's particles, too", gas.sum(4, 3, 1, 1, 0), 3);
    }

    private static void refusedSums() {
        SixWayGas gas = new SixWayGas(8, 6);
        int[][] rectangles = {{0, 0, 9, 6}, {0, 0, 8, 7}, {1, 0, 8, 6}, {0, 1, 8, 6}, {7, 5, 2, 1}, {7, 5, 1, 2},
            {0, 0, 0, 1}, {0, 0, 1, 0}, {0, 0, -1, 1}, {0, 0, 1, -1}, {3, 3, Integer.MAX_VALUE, 1},
            {3, 3, 1, Integer.MAX_VALUE}, {3, 3, Integer.MIN_VALUE, 1}, {3, 3, 1, Integer.MIN_VALUE}};
        for (int[] r : rectangles) {
            for (int field : new int[] {0, 3}) {
                DUE.outOfBounds("sum of " + r[0] + ", " + r[1] + ", " + r[2] + ", " + r[3],
                        () -> gas.sum(r[0], r[1], r[2], r[3], field));
            }
        }
        for (int field : new int[] {-1, 3, Integer.MIN_VALUE, Integer.MAX_VALUE}) {
            DUE.badArgument("sum of field " + field, () -> gas.sum(0, 0, 8, 6, field));
        }
    }

    private static void checks() {
        SixWayGas gas = new SixWayGas(4, 16);
        gas.set(0, 0, 3);
        DUE.equal("check of the first cell", gas.check(), 3);
        gas.set(3, 15, 127);
        DUE.equal("check of first and last", gas.check(), 3 + 127 * (15 * 16 + 4));
        gas.set(2, 1, 64);
        DUE.equal("check of three cells", gas.check(), 3 + 127 * 244 + 64 * 19);
        gas.set(0, 0, 0);
        DUE.equal("check less the first", gas.check(), 127 * 244 + 64 * 19);
    }

    /** The most particles that there can be: 7 in each of 256 cells. */
    private static void fullGrid() {
        SixWayGas gas = new SixWayGas(16, 16);
        for (int i = 0; i < 256; i++) {
            gas.set(i % 16, i / 16, 127);
        }
        DUE.equal("number of a full grid", gas.sum(0, 0, 16, 16, 0), 1792);
        DUE.equal("first momentum of a full grid", gas.sum(0, 0, 16, 16, 1), 0);
        DUE.equal("check of a full grid", gas.check(), 127 * (256 * 257 / 2));
        gas.step(3);
        DUE.equal("check of a full grid, later", gas.check(), 127 * (256 * 257 / 2));
        SixWayGas flat = new SixWayGas(16, 16);
        for (int i = 0; i < 256; i++) {
            flat.set(i % 16, i / 16, 33);
        }
        DUE.equal("most momentum", flat.sum(0, 0, 16, 16, 1), 512);
        DUE.equal("least momentum", flat.sum(0, 0, 16, 16, 2), -256);
    }
}
