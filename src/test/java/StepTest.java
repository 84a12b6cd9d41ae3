/** Promises 12 (seed), 13 (step) and 16 (book): meeting, flight, walls, sinks and sources. */
public final class StepTest {
    private static final Due DUE = new Due();

    public static void main(String[] args) {
        times();
        severalStepsAreSingleSteps();
        mostCalls();
        flight();
        flightAllAtOnce();
        meetings();
        noMeetingInWalls();
        walls();
        sinks();
        sources();
        rates();
        sourceKeepsParticles();
        balance();
        refusedBooks();
        DUE.end();
    }

    private static void times() {
        SixWayGas gas = new SixWayGas(4, 4);
        DUE.equal("step 0", gas.step(0), 0);
        DUE.equal("step 64", gas.step(64), 64);
        DUE.equal("step 1", gas.step(1), 65);
        for (int n : new int[] {-1, 65, Integer.MIN_VALUE, Integer.MAX_VALUE}) {
            DUE.badArgument("step " + n, () -> gas.step(n));
        }
        DUE.equal("time behind refused steps", gas.step(0), 65);
    }

    /** Every number of steps that may be asked for is as many single steps. */
    private static void severalStepsAreSingleSteps() {
        for (int n = 0; n <= 64; n++) {
            SixWayGas atOnce = crowded();
            SixWayGas oneByOne = crowded();
            DUE.equal("step " + n, atOnce.step(n), n);
            for (int i = 0; i < n; i++) {
                DUE.equal("step 1", oneByOne.step(1), i + 1);
            }
            DUE.equal("check behind step " + n, atOnce.check(), oneByOne.check());
            DUE.equal("moves behind step " + n, atOnce.account(2), oneByOne.account(2));
            DUE.equal("book behind step " + n, atOnce.book(1, 0), oneByOne.book(1, 0));
        }
    }

    private static SixWayGas crowded() {
        SixWayGas gas = new SixWayGas(6, 6);
        gas.mass(4);
        for (int i = 0; i < 36; i++) {
            gas.set(i % 6, i / 6, (29 * i + 3) % 128);
        }
        gas.source(0, 0, 50);
        gas.sink(3, 5, true);
        gas.body(2, 2, true);
        gas.body(3, 2, true);
        gas.wall(5, 1, true);
        return gas;
    }

    /** "An object is used for at most 512 calls": the dearest ones, and the last still answers. */
    private static void mostCalls() {
        SixWayGas gas = new SixWayGas(16, 16);
        gas.source(0, 0, 256);
        gas.source(15, 15, 256);
        gas.sink(8, 0, true);
        gas.body(8, 8, true);
        gas.mass(1);
        for (int calls = 6; calls < 511; calls++) {
            DUE.equal("call " + calls, gas.step(64), 64 * (calls - 5));
        }
        DUE.yes("the last call but one", gas.account(2) > 0);
        DUE.equal("the last call", gas.step(64), 64 * 506);
    }

    private static void flight() {
        int[][] even = {{2, 2}, {1, 1}, {0, 1}, {0, 2}, {0, 3}, {1, 3}, {1, 2}};
        int[][] odd = {{2, 1}, {2, 0}, {1, 0}, {0, 1}, {1, 2}, {2, 2}, {1, 1}};
        int[][] firstCorner = {{1, 0}, {0, 5}, {3, 5}, {3, 0}, {3, 1}, {0, 1}, {0, 0}};
        int[][] lastCorner = {{0, 5}, {0, 4}, {3, 4}, {2, 5}, {3, 0}, {0, 0}, {3, 5}};
        for (int kind = 0; kind < 7; kind++) {
            flies(1, 2, kind, even[kind]);
            flies(1, 1, kind, odd[kind]);
            flies(0, 0, kind, firstCorner[kind]);
            flies(3, 5, kind, lastCorner[kind]);
        }
    }

    private static void flies(int x, int y, int kind, int[] to) {
        SixWayGas gas = new SixWayGas(4, 6);
        gas.set(x, y, 1 << kind);
        gas.step(1);
        String name = "flight of kind " + kind + " from " + x + ", " + y;
        DUE.equal(name, gas.get(to[0], to[1]), 1 << kind);
        DUE.equal(name + " number", gas.sum(0, 0, 4, 6, 0), 1);
    }

    /** "all at once": two that fly towards each other from cell to cell change their cells and do not meet. */
    private static void flightAllAtOnce() {
        SixWayGas gas = new SixWayGas(8, 8);
        gas.set(3, 4, 1);
        gas.set(4, 4, 8);
        gas.step(1);
        DUE.equal("one to the right", gas.get(4, 4), 1);
        DUE.equal("one to the left", gas.get(3, 4), 8);
        SixWayGas row = new SixWayGas(4, 4);
        for (int x = 0; x < 3; x++) {
            row.set(x, 1, 1);
        }
        row.step(1);
        DUE.equal("the gap flies, too", row.get(0, 1), 0);
        DUE.equal("the row flies", row.sum(1, 1, 3, 1, 0), 3);
    }

    private static void meetings() {
        // 9 becomes 18 (sense 0) or 36 (sense 1), which then flies apart.
        for (int time = 0; time < 2; time++) {
            for (int x = 2; x < 4; x++) {
                SixWayGas gas = new SixWayGas(8, 8);
                gas.step(time);
                gas.set(x, 4, 9);
                gas.step(1);
                boolean isZero = (x + time) % 2 == 0;
                String name = "meeting at " + x + ", 4 at " + time;
                DUE.equal(name + " up", gas.get(isZero ? x : x - 1, 3), isZero ? 2 : 4);
                DUE.equal(name + " down", gas.get(isZero ? x - 1 : x, 5), isZero ? 16 : 32);
            }
        }
        SixWayGas gas = new SixWayGas(8, 8);
        gas.set(4, 4, 65);
        gas.step(1);
        DUE.equal("one and the resting, up", gas.get(4, 3), 2);
        DUE.equal("one and the resting, down", gas.get(4, 5), 32);
    }

    private static void noMeetingInWalls() {
        SixWayGas gas = new SixWayGas(8, 8);
        gas.wall(4, 4, true);
        gas.set(4, 4, 9);
        gas.body(2, 2, true);
        gas.set(2, 2, 9);
        gas.source(6, 6, 1);
        gas.set(6, 6, 9);
        gas.sink(0, 6, true);
        gas.set(0, 6, 9);
        gas.step(1);
        DUE.equal("wall's right", gas.get(5, 4), 1);
        DUE.equal("wall's left", gas.get(3, 4), 8);
        DUE.equal("body's right", gas.get(3, 2), 1);
        DUE.equal("body's left", gas.get(1, 2), 8);
        DUE.equal("source's up", gas.get(6, 5), 2);
        DUE.equal("sink's up", gas.get(0, 5), 2);
    }

    private static void walls() {
        SixWayGas gas = new SixWayGas(8, 8);
        gas.wall(4, 4, true);
        gas.set(3, 4, 1);
        gas.step(1);
        DUE.equal("in the wall", gas.get(4, 4), 8);
        books(gas, "wall hit by 0", 0, new int[] {0, -2, 0});
        gas.step(1);
        DUE.equal("out of the wall", gas.get(3, 4), 8);
        books(gas, "wall left", 0, new int[] {0, -2, 0});
        gas.set(3, 4, 0);
        gas.set(4, 5, 4);
        gas.set(4, 4, 64);
        gas.step(1);
        DUE.equal("two in the wall", gas.get(4, 4), 32 | 64);
        books(gas, "wall hit by 2, too", 0, new int[] {0, 0, -2});
        DUE.equal("body's book", gas.book(3, 1), 0);
    }

    private static void sinks() {
        SixWayGas gas = new SixWayGas(8, 8);
        gas.sink(4, 4, true);
        gas.set(3, 4, 1);
        gas.set(4, 5, 4);
        gas.set(4, 4, 64);
        gas.step(1);
        DUE.equal("the sink's bits", gas.get(4, 4), 0);
        DUE.equal("number", gas.sum(0, 0, 8, 8, 0), 0);
        books(gas, "sink", 2, new int[] {-3, 0, -1});
    }

    private static void sources() {
        for (int s : new int[] {0, 1, -1, 12345, Integer.MIN_VALUE, Integer.MAX_VALUE}) {
            SixWayGas gas = new SixWayGas(8, 8);
            if (s != 0) {
                gas.seed(s);
            }
            gas.source(5, 1, 100);
            gas.source(1, 5, 200);
            gas.source(3, 1, 128);
            gas.step(1);
            // Row by row: (3, 1), (5, 1), (1, 5).
            int[] seed = {s};
            DUE.equal("first source, seed " + s, gas.get(3, 1), fed(seed, 128));
            DUE.equal("second source, seed " + s, gas.get(5, 1), fed(seed, 100));
            DUE.equal("third source, seed " + s, gas.get(1, 5), fed(seed, 200));
            gas.set(3, 1, 0);
            gas.set(5, 1, 0);
            gas.set(1, 5, 0);
            gas.source(3, 1, 0);
            gas.source(5, 1, 0);
            gas.source(1, 5, 99);
            gas.step(1);
            DUE.equal("the seed goes on, seed " + s, gas.get(1, 5), fed(seed, 99));
        }
    }

    private static int fed(int[] seed, int rate) {
        int bits = 0;
        for (int kind = 0; kind < 7; kind++) {
            seed[0] = seed[0] * 1103515245 + 12345;
            if ((seed[0] >>> 16) % 256 < rate) {
                bits += 1 << kind;
            }
        }
        return bits;
    }

    private static void rates() {
        for (int rate : new int[] {1, 64, 255, 256}) {
            SixWayGas gas = new SixWayGas(4, 4);
            gas.seed(99);
            gas.source(0, 0, rate);
            int[] seed = {99};
            for (int i = 0; i < 60; i++) {
                gas.step(1);
                DUE.equal("rate " + rate + " turn " + i, gas.get(0, 0), fed(seed, rate));
                for (int x = 0; x < 4; x++) {
                    gas.set(x, 0, 0);
                }
            }
        }
    }

    private static void sourceKeepsParticles() {
        SixWayGas gas = new SixWayGas(8, 8);
        gas.source(4, 4, 256);
        gas.set(3, 4, 1);
        gas.set(4, 4, 64);
        gas.step(1);
        DUE.equal("full", gas.get(4, 4), 127);
        books(gas, "the five that were not there", 1, new int[] {5, -1, 0});
        SixWayGas other = new SixWayGas(8, 8);
        other.source(4, 4, 1);
        other.set(3, 4, 1);
        other.step(1);
        DUE.equal("kept", other.get(4, 4) & 1, 1);
    }

    private static void balance() {
        SixWayGas gas = new SixWayGas(12, 10);
        gas.source(0, 0, 40);
        gas.source(11, 9, 77);
        gas.sink(5, 5, true);
        gas.wall(3, 7, true);
        gas.wall(8, 2, true);
        gas.body(6, 2, true);
        gas.body(7, 7, true);
        gas.mass(2);
        for (int i = 0; i < 25; i++) {
            gas.step(3);
            for (int field = 0; field < 3; field++) {
                int given = gas.book(0, field) + gas.book(1, field) + gas.book(2, field) + gas.book(3, field);
                DUE.equal("balance of field " + field, gas.sum(0, 0, 12, 10, field), given);
            }
            DUE.equal("walls' particles", gas.book(0, 0), 0);
            DUE.equal("body's particles", gas.book(3, 0), 0);
        }
        DUE.yes("the sink took something", gas.book(2, 0) < 0);
        DUE.yes("the body was pushed", gas.account(2) > 0);
    }

    private static void books(SixWayGas gas, String name, int kind, int[] want) {
        for (int field = 0; field < 3; field++) {
            DUE.equal(name + ", book field " + field, gas.book(kind, field), want[field]);
        }
    }

    private static void refusedBooks() {
        SixWayGas gas = new SixWayGas(4, 4);
        for (int wrong : new int[] {-1, 4, Integer.MIN_VALUE, Integer.MAX_VALUE}) {
            DUE.badArgument("book kind " + wrong, () -> gas.book(wrong, 0));
            DUE.badArgument("book field " + wrong, () -> gas.book(0, wrong));
        }
        DUE.badArgument("book field 3", () -> gas.book(3, 3));
    }
}
