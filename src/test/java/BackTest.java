import java.util.Random;

/** Promise 14 (back). */
public final class BackTest {
    private static final Due DUE = new Due();

    public static void main(String[] args) {
        thereAndBack();
        everyNumberOfSteps();
        noStepsBack();
        beforeTheBeginning();
        belowTheBeginningAndUpAgain();
        inWallsAlone();
        wallsBookBackAndForth();
        otherWalls();
        lostStaysLost();
        whatStepsDoNotTouch();
        refused();
        DUE.end();
    }

    private static void thereAndBack() {
        for (int run = 0; run < 20; run++) {
            Random random = new Random(run);
            SixWayGas gas = new SixWayGas(6, 8);
            int[] bits = new int[48];
            for (int i = 0; i < 48; i++) {
                bits[i] = random.nextInt(128);
                gas.set(i % 6, i / 6, bits[i]);
                if (random.nextInt(5) == 0) {
                    gas.wall(i % 6, i / 6, true);
                }
            }
            gas.step(run % 3);
            int first = gas.book(0, 1);
            int second = gas.book(0, 2);
            int sum = gas.check();
            gas.step(60);
            DUE.equal("time", gas.back(60), run % 3);
            DUE.equal("check", gas.check(), sum);
            DUE.equal("walls' first", gas.book(0, 1), first);
            DUE.equal("walls' second", gas.book(0, 2), second);
            gas.back(run % 3);
            for (int i = 0; i < 48; i++) {
                DUE.equal("bits of " + i, gas.get(i % 6, i / 6), bits[i]);
            }
            DUE.equal("walls' first at the beginning", gas.book(0, 1), 0);
            DUE.equal("walls' second at the beginning", gas.book(0, 2), 0);
        }
    }

    private static SixWayGas crowded() {
        SixWayGas gas = new SixWayGas(6, 4);
        for (int i = 0; i < 24; i++) {
            gas.set(i % 6, i / 6, (45 * i + 9) % 128);
        }
        gas.wall(0, 0, true);
        gas.wall(5, 3, true);
        gas.set(2, 2, 127);
        gas.mark(2, 2, 0);
        gas.mark(2, 2, 6);
        return gas;
    }

    /** From 0 to 64, which is the most: at once, and one by one. */
    private static void everyNumberOfSteps() {
        int begin = crowded().check();
        for (int n = 0; n <= 64; n++) {
            SixWayGas gas = crowded();
            DUE.equal("step " + n, gas.step(n), n);
            DUE.equal("back " + n, gas.back(n), 0);
            DUE.equal("check behind back " + n, gas.check(), begin);
            DUE.equal("mark behind back " + n, gas.marked(0), Hex.place(2, 2, 0));
            DUE.equal("resting mark behind back " + n, gas.marked(1), Hex.place(2, 2, 6));
            SixWayGas atOnce = crowded();
            SixWayGas oneByOne = crowded();
            atOnce.back(n);
            for (int i = 0; i < n; i++) {
                DUE.equal("back 1", oneByOne.back(1), -1 - i);
            }
            DUE.equal("check of " + n + " at once", atOnce.check(), oneByOne.check());
            DUE.equal("walls' book of " + n + " at once", atOnce.book(0, 1), oneByOne.book(0, 1));
        }
    }

    private static void noStepsBack() {
        SixWayGas gas = crowded();
        gas.step(3);
        int check = gas.check();
        int book = gas.book(0, 1);
        DUE.equal("back 0", gas.back(0), 3);
        DUE.equal("check behind back 0", gas.check(), check);
        DUE.equal("walls' book behind back 0", gas.book(0, 1), book);
    }

    /** The lowest bit of x + y + time is the sense for times below 0, too. */
    private static void belowTheBeginningAndUpAgain() {
        for (int below = 1; below <= 64; below++) {
            SixWayGas gas = crowded();
            int begin = gas.check();
            DUE.equal("time below", gas.back(below), -below);
            DUE.equal("time again", gas.step(below), 0);
            DUE.equal("check below and up again", gas.check(), begin);
            DUE.equal("walls' book below and up again", gas.book(0, 1), 0);
            DUE.equal("mark below and up again", gas.marked(0), Hex.place(2, 2, 0));
        }
        // At time -1 the sense in (4, 4) is 1, so that 9 becomes 36.
        SixWayGas odd = new SixWayGas(8, 8);
        odd.back(1);
        odd.set(4, 4, 9);
        odd.step(1);
        DUE.equal("up", odd.get(3, 3), 4);
        DUE.equal("down", odd.get(4, 5), 32);
        // A step back from time 0 ends there, and 36 was 9.
        SixWayGas back = new SixWayGas(8, 8);
        back.set(3, 3, 4);
        back.set(4, 5, 32);
        back.back(1);
        DUE.equal("what they were", back.get(4, 4), 9);
    }

    /** Where every cell is a wall, nothing ever meets. */
    private static void inWallsAlone() {
        SixWayGas gas = new SixWayGas(4, 4);
        for (int i = 0; i < 16; i++) {
            gas.wall(i % 4, i / 4, true);
            gas.set(i % 4, i / 4, (i * 23 + 9) % 128);
        }
        int begin = gas.check();
        gas.step(2);
        DUE.equal("two steps among walls", gas.check(), begin);
        gas.back(1);
        gas.back(64);
        gas.step(63);
        DUE.equal("back among walls", gas.check(), begin);
        DUE.equal("walls' book at time 0", gas.book(0, 1), 0);
    }

    /** "The walls' book becomes what it was": at each of the steps there were. */
    private static void wallsBookBackAndForth() {
        SixWayGas gas = crowded();
        int[][] books = new int[30][3];
        for (int i = 0; i < 30; i++) {
            for (int field = 0; field < 3; field++) {
                books[i][field] = gas.book(0, field);
            }
            gas.step(1);
        }
        boolean changes = false;
        for (int i = 29; i >= 0; i--) {
            gas.back(1);
            for (int field = 0; field < 3; field++) {
                DUE.equal("walls' book at " + i, gas.book(0, field), books[i][field]);
                changes |= books[i][field] != 0;
            }
        }
        DUE.yes("there was something in the walls' book", changes);
    }

    /** The books of others, the body's account, its mass and the seed are not what steps back are about. */
    private static void whatStepsDoNotTouch() {
        SixWayGas gas = new SixWayGas(8, 8);
        gas.body(4, 4, true);
        gas.sink(1, 1, true);
        gas.source(6, 6, 256);
        gas.set(3, 4, 1);
        gas.set(1, 1, 64);
        gas.step(1);
        gas.body(4, 4, false);
        gas.sink(1, 1, false);
        gas.source(6, 6, 0);
        gas.back(1);
        DUE.equal("the body's account", gas.account(0), 2);
        DUE.equal("the body's book", gas.book(3, 1), -2);
        DUE.equal("the sinks' book", gas.book(2, 0), -1);
        DUE.equal("the sources' book", gas.book(1, 0), 7);
        DUE.equal("the walls' book", gas.book(0, 1), 0);
        DUE.equal("what a sink took is not there again", gas.get(1, 1), 0);
        for (int i = 0; i < 64; i++) {
            gas.set(i % 8, i / 8, 0);
        }
        gas.source(6, 6, 128);
        gas.step(1);
        // The seed went on seven times from 0, and stood still since.
        int seed = 0;
        for (int i = 0; i < 7; i++) {
            seed = seed * 1103515245 + 12345;
        }
        SixWayGas other = new SixWayGas(8, 8);
        other.seed(seed);
        other.source(6, 6, 128);
        other.step(1);
        DUE.equal("the seed", gas.get(6, 6), other.get(6, 6));
    }

    private static void beforeTheBeginning() {
        SixWayGas gas = new SixWayGas(8, 8);
        gas.set(4, 4, 9);
        gas.set(1, 1, 1);
        gas.mark(4, 4, 0);
        DUE.equal("back 64", gas.back(64), -64);
        DUE.equal("back 1", gas.back(1), -65);
        DUE.equal("step 64", gas.step(64), -1);
        DUE.equal("step 1", gas.step(1), 0);
        DUE.equal("bits", gas.get(4, 4), 9);
        DUE.equal("other bits", gas.get(1, 1), 1);
        DUE.equal("mark", gas.marked(0), 4 * 128 + 4 * 8);
        DUE.equal("back 1 alone", gas.back(1), -1);
        DUE.equal("flew back", gas.get(0, 1), 1);
    }

    private static void otherWalls() {
        SixWayGas gas = new SixWayGas(8, 8);
        gas.set(3, 4, 1);
        gas.step(1);
        gas.wall(4, 4, true);
        // With this wall the particle of kind 0 in (4, 4) came as one of kind 3 from (5, 4).
        gas.back(1);
        DUE.equal("came from", gas.get(5, 4), 8);
        DUE.equal("walls' book", gas.book(0, 1), -2);
        gas.step(1);
        DUE.equal("in the wall", gas.get(4, 4), 1);
        DUE.equal("walls' book again", gas.book(0, 1), 0);
    }

    private static void lostStaysLost() {
        SixWayGas gas = new SixWayGas(8, 8);
        gas.sink(4, 4, true);
        gas.set(3, 4, 1);
        gas.mark(3, 4, 0);
        gas.step(1);
        gas.sink(4, 4, false);
        DUE.equal("back without the sink", gas.back(1), 0);
        DUE.equal("nothing came back", gas.check(), 0);
        DUE.equal("the sink's book", gas.book(2, 0), -1);
        DUE.equal("the mark", gas.marked(0), SixWayGas.NONE);
    }

    private static void refused() {
        SixWayGas gas = new SixWayGas(8, 8);
        gas.wall(0, 0, true);
        gas.step(5);
        for (int n : new int[] {-1, 65, Integer.MIN_VALUE, Integer.MAX_VALUE}) {
            DUE.badArgument("back " + n, () -> gas.back(n));
        }
        gas.source(7, 7, 1);
        unsupported(gas, "a source");
        gas.source(7, 7, 0);
        DUE.equal("no source any more", gas.back(0), 5);
        gas.sink(7, 7, true);
        unsupported(gas, "a sink");
        gas.sink(7, 7, false);
        DUE.equal("no sink any more", gas.back(0), 5);
        gas.body(7, 7, true);
        unsupported(gas, "a cell of the body");
        gas.body(7, 7, false);
        DUE.equal("no body any more", gas.back(5), 0);
    }

    private static void unsupported(SixWayGas gas, String name) {
        for (int n = 0; n < 3; n++) {
            int steps = n;
            DUE.thrown("back " + n + " with " + name, "UnsupportedOperationException", () -> gas.back(steps));
        }
        DUE.badArgument("back 65 with " + name, () -> gas.back(65));
        DUE.badArgument("back -1 with " + name, () -> gas.back(-1));
        DUE.equal("time behind it", gas.step(0), 5);
    }
}
