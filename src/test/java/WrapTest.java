/**
 * "Column w is column 0, column -1 is w - 1, and rows likewise": for flight, for steps taken back,
 * for walls, sinks and sources, for marks, and for the body's way.
 */
public final class WrapTest {
    private static final int[][] SIZES = {{4, 4}, {16, 16}, {4, 16}, {16, 4}, {6, 10}, {14, 12}};
    private static final Due DUE = new Due();

    public static void main(String[] args) {
        bordersOfFourByFour();
        bordersOfSixteenBySixteen();
        everyCellAndKind();
        roundTheGrid();
        edgesBeyondTheBorder();
        bodyOverTheBorder();
        bodyBlockedOverTheBorder();
        DUE.end();
    }

    private static void bordersOfFourByFour() {
        flies(4, 4, 0, 3, 2, 0, 2);
        flies(4, 4, 3, 0, 2, 3, 2);
        flies(4, 4, 1, 3, 1, 0, 0);
        flies(4, 4, 5, 3, 1, 0, 2);
        flies(4, 4, 2, 0, 2, 3, 1);
        flies(4, 4, 4, 0, 2, 3, 3);
        flies(4, 4, 1, 1, 0, 1, 3);
        flies(4, 4, 2, 1, 0, 0, 3);
        flies(4, 4, 5, 1, 3, 2, 0);
        flies(4, 4, 4, 1, 3, 1, 0);
        flies(4, 4, 2, 0, 0, 3, 3);
        flies(4, 4, 5, 3, 3, 0, 0);
    }

    private static void bordersOfSixteenBySixteen() {
        flies(16, 16, 0, 15, 15, 0, 15);
        flies(16, 16, 0, 14, 15, 15, 15);
        flies(16, 16, 3, 0, 0, 15, 0);
        flies(16, 16, 3, 1, 0, 0, 0);
        flies(16, 16, 1, 15, 15, 0, 14);
        flies(16, 16, 1, 15, 0, 15, 15);
        flies(16, 16, 2, 0, 0, 15, 15);
        flies(16, 16, 2, 0, 15, 0, 14);
        flies(16, 16, 4, 0, 0, 15, 1);
        flies(16, 16, 4, 0, 15, 0, 0);
        flies(16, 16, 5, 15, 15, 0, 0);
        flies(16, 16, 5, 15, 14, 15, 15);
    }

    /** A marked particle flies from one cell to the other, and comes back from there. */
    private static void flies(int w, int h, int kind, int fromX, int fromY, int toX, int toY) {
        SixWayGas gas = new SixWayGas(w, h);
        gas.set(fromX, fromY, 1 << kind);
        gas.mark(fromX, fromY, kind);
        gas.step(1);
        String name = w + " x " + h + ", kind " + kind + " from " + fromX + ", " + fromY;
        DUE.equal(name + ", bits where it is due", gas.get(toX, toY), 1 << kind);
        DUE.equal(name + ", number", gas.sum(0, 0, w, h, 0), 1);
        DUE.equal(name + ", mark", gas.marked(0), Hex.place(toX, toY, kind));
        gas.back(1);
        DUE.equal(name + ", bits behind a step back", gas.get(fromX, fromY), 1 << kind);
        DUE.equal(name + ", number behind a step back", gas.sum(0, 0, w, h, 0), 1);
        DUE.equal(name + ", mark behind a step back", gas.marked(0), Hex.place(fromX, fromY, kind));
    }

    private static void everyCellAndKind() {
        for (int[] size : SIZES) {
            for (int i = 0; i < size[0] * size[1] * 6; i++) {
                int kind = i % 6;
                int x = i / 6 % size[0];
                int y = i / 6 / size[0];
                int[] to = Hex.neighbour(x, y, kind, size[0], size[1]);
                flies(size[0], size[1], kind, x, y, to[0], to[1]);
            }
        }
    }

    /** Two rows up or down are one column aside: h rows are h / 2 columns. */
    private static void roundTheGrid() {
        for (int[] size : SIZES) {
            int w = size[0];
            int h = size[1];
            arrives(w, h, 0, w, 1, 1);
            arrives(w, h, 3, w, 1, 1);
            arrives(w, h, 1, h, (1 + h / 2) % w, 1);
            arrives(w, h, 5, h, (1 + h / 2) % w, 1);
            arrives(w, h, 2, h, Math.floorMod(1 - h / 2, w), 1);
            arrives(w, h, 4, h, Math.floorMod(1 - h / 2, w), 1);
        }
    }

    private static void arrives(int w, int h, int kind, int steps, int toX, int toY) {
        SixWayGas gas = new SixWayGas(w, h);
        gas.set(1, 1, 1 << kind);
        gas.step(steps);
        String name = w + " x " + h + ", kind " + kind + " round the grid";
        DUE.equal(name, gas.get(toX, toY), 1 << kind);
        gas.back(steps);
        DUE.equal(name + " and back", gas.get(1, 1), 1 << kind);
    }

    private static void edgesBeyondTheBorder() {
        for (int kind = 0; kind < 6; kind++) {
            int[] from = kind == 0 || kind == 5 ? new int[] {7, 5} : new int[] {0, 0};
            int[] to = Hex.neighbour(from[0], from[1], kind, 8, 6);
            String name = "kind " + kind + " over the border into a ";
            SixWayGas walled = new SixWayGas(8, 6);
            walled.wall(to[0], to[1], true);
            walled.set(from[0], from[1], 1 << kind);
            walled.step(2);
            DUE.equal(name + "wall", walled.get(from[0], from[1]), 1 << (kind + 3) % 6);
            SixWayGas drained = new SixWayGas(8, 6);
            drained.sink(to[0], to[1], true);
            drained.set(from[0], from[1], 1 << kind);
            drained.step(1);
            DUE.equal(name + "sink", drained.book(2, 0), -1);
            SixWayGas fed = new SixWayGas(8, 6);
            fed.source(to[0], to[1], 256);
            fed.set(from[0], from[1], 1 << kind);
            fed.step(1);
            DUE.equal(name + "source", fed.book(1, 0), 6);
        }
    }

    /** A body of one cell in each cell of the border, with an account that moves it by each direction. */
    private static void bodyOverTheBorder() {
        for (int[] size : new int[][] {{4, 4}, {16, 16}, {6, 4}}) {
            for (int direction = 0; direction < 6; direction++) {
                for (int i = 0; i < size[0] * size[1]; i++) {
                    movesFrom(i % size[0], i / size[0], direction, size[0], size[1]);
                }
            }
        }
    }

    private static SixWayGas readyToMove(int x, int y, int direction, int w, int h) {
        SixWayGas gas = new SixWayGas(w, h);
        gas.mass(2);
        gas.body(x, y, true);
        int[] from = Hex.neighbour(x, y, direction + 3, w, h);
        gas.set(from[0], from[1], 1 << direction);
        return gas;
    }

    private static void movesFrom(int x, int y, int direction, int w, int h) {
        SixWayGas gas = readyToMove(x, y, direction, w, h);
        gas.step(1);
        int[] to = Hex.neighbour(x, y, direction, w, h);
        String name = w + " x " + h + ", the body from " + x + ", " + y + " by " + direction;
        DUE.equal(name + ", its new cell", gas.edge(to[0], to[1]), 4);
        DUE.equal(name + ", its old cell", gas.edge(x, y), 0);
        DUE.equal(name + ", its particle", gas.get(to[0], to[1]), 1 << (direction + 3) % 6);
    }

    private static void bodyBlockedOverTheBorder() {
        int[][] cells = {{7, 2}, {2, 0}, {2, 0}, {0, 2}, {2, 5}, {2, 5}};
        for (int direction = 0; direction < 6; direction++) {
            int x = cells[direction][0];
            int y = cells[direction][1];
            SixWayGas gas = readyToMove(x, y, direction, 8, 6);
            int[] to = Hex.neighbour(x, y, direction, 8, 6);
            gas.wall(to[0], to[1], true);
            gas.step(1);
            String name = "blocked over the border by " + direction;
            DUE.equal(name + ", its cell", gas.edge(x, y), 4);
            DUE.equal(name + ", moves", gas.account(2), 0);
            DUE.equal(name + ", account", gas.account(0), 2 * Hex.MOMENTUM[direction][0]);
        }
    }
}
