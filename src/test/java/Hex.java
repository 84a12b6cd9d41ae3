/** What the document says of the grid, once more and by its own words, for the tests. */
final class Hex {
    static final int[][] MOMENTUM = {{1, 0}, {0, 1}, {-1, 1}, {-1, 0}, {0, -1}, {1, -1}, {0, 0}};

    private static final int[][] FROM_EVEN_ROW = {{1, 0}, {0, -1}, {-1, -1}, {-1, 0}, {-1, 1}, {0, 1}};
    private static final int[][] FROM_ODD_ROW = {{1, 0}, {1, -1}, {0, -1}, {-1, 0}, {0, 1}, {1, 1}};

    private Hex() { }

    /** The neighbour of (x, y) by a direction, on a grid of w columns and h rows. */
    static int[] neighbour(int x, int y, int direction, int w, int h) {
        int[] change = (y % 2 == 0 ? FROM_EVEN_ROW : FROM_ODD_ROW)[direction % 6];
        return new int[] {Math.floorMod(x + change[0], w), Math.floorMod(y + change[1], h)};
    }

    /** The answer of marked() for a particle of this kind in (x, y). */
    static int place(int x, int y, int kind) {
        return 128 * y + 8 * x + kind;
    }

    static boolean has(int bits, int kind) {
        return (bits >> kind) % 2 == 1;
    }

    /** How many particles the bits are (field 0), or their momentum (1, 2). */
    static int amount(int bits, int field) {
        int total = 0;
        for (int kind = 0; kind < 7; kind++) {
            if (has(bits, kind)) {
                total += field == 0 ? 1 : MOMENTUM[kind][field - 1];
            }
        }
        return total;
    }

    /** The bits with each flying kind k become k + 3. */
    static int turnedRound(int bits) {
        int turned = bits / 64 * 64;
        for (int kind = 0; kind < 6; kind++) {
            turned += has(bits, kind) ? 1 << (kind + 3) % 6 : 0;
        }
        return turned;
    }

    /** Puts particles one cell off, so that the next flight brings just these bits into (x, y). */
    static void arrive(SixWayGas gas, int x, int y, int bits, int w, int h) {
        gas.set(x, y, bits / 64 * 64);
        for (int kind = 0; kind < 6; kind++) {
            int[] from = neighbour(x, y, kind + 3, w, h);
            gas.set(from[0], from[1], has(bits, kind) ? 1 << kind : 0);
        }
    }
}
