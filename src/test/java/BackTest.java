import java.util.Random;

/** Promise 14 (back). */
public final class BackTest {
    private static final Due DUE = new Due();

    public static void main(String[] args) {
        thereAndBack();
        beforeTheBeginning();
        otherWalls();
        lostStaysLost();
        refused();
        DUE.end();
    }

    private static void thereAndBack() {
        for (int run = 0; run < 20; run++) {
            Random random = new Random(run);
            SixWayGas gas = new SixWayGas(6, 8);
            int[] bits = new int[48];
            for (int i = 0; i < 48; i++) {
                bits[i] = random.nextInt(128);
                gas.set(i % 6, i / 6, bits[i]);
                if (random.nextInt(5) == 0) {
                    gas.wall(i % 6, i / 6, true);
                }
            }
            gas.step(run % 3);
            int first = gas.book(0, 1);
            int second = gas.book(0, 2);
            int sum = gas.check();
            gas.step(60);
            DUE.equal("time", gas.back(60), run % 3);
            DUE.equal("check", gas.check(), sum);
            DUE.equal("walls' first", gas.book(0, 1), first);
            DUE.equal("walls' second", gas.book(0, 2), second);
            gas.back(run % 3);
            for (int i = 0; i < 48; i++) {
                DUE.equal("bits of " + i, gas.get(i % 6, i / 6), bits[i]);
            }
            DUE.equal("walls' first at the beginning", gas.book(0, 1), 0);
            DUE.equal("walls' second at the beginning", gas.book(0, 2), 0);
        }
    }

    private static void beforeTheBeginning() {
        SixWayGas gas = new SixWayGas(8, 8);
        gas.set(4, 4, 9);
        gas.set(1, 1, 1);
        gas.mark(4, 4, 0);
        DUE.equal("back 64", gas.back(64), -64);
        DUE.equal("back 1", gas.back(1), -65);
        DUE.equal("step 64", gas.step(64), -1);
        DUE.equal("step 1", gas.step(1), 0);
        DUE.equal("bits", gas.get(4, 4), 9);
        DUE.equal("other bits", gas.get(1, 1), 1);
        DUE.equal("mark", gas.marked(0), 4 * 128 + 4 * 8);
        DUE.equal("back 1 alone", gas.back(1), -1);
        DUE.equal("flew back", gas.get(0, 1), 1);
    }

    private static void otherWalls() {
        SixWayGas gas = new SixWayGas(8, 8);
        gas.set(3, 4, 1);
        gas.step(1);
        gas.wall(4, 4, true);
        // With this wall the particle of kind 0 in (4, 4) came as one of kind 3 from (5, 4).
        gas.back(1);
        DUE.equal("came from", gas.get(5, 4), 8);
        DUE.equal("walls' book", gas.book(0, 1), -2);
        gas.step(1);
        DUE.equal("in the wall", gas.get(4, 4), 1);
        DUE.equal("walls' book again", gas.book(0, 1), 0);
    }

    private static void lostStaysLost() {
        SixWayGas gas = new SixWayGas(8, 8);
        gas.sink(4, 4, true);
        gas.set(3, 4, 1);
        gas.mark(3, 4, 0);
        gas.step(1);
        gas.sink(4, 4, false);
        DUE.equal("back without the sink", gas.back(1), 0);
        DUE.equal("nothing came back", gas.check(), 0);
        DUE.equal("the sink's book", gas.book(2, 0), -1);
        DUE.equal("the mark", gas.marked(0), SixWayGas.NONE);
    }

    private static void refused() {
        SixWayGas gas = new SixWayGas(8, 8);
        gas.wall(0, 0, true);
        gas.step(5);
        for (int n : new int[] {-1, 65, Integer.MIN_VALUE, Integer.MAX_VALUE}) {
            DUE.badArgument("back " + n, () -> gas.back(n));
        }
        gas.source(7, 7, 1);
        unsupported(gas, "a source");
        gas.source(7, 7, 0);
        DUE.equal("no source any more", gas.back(0), 5);
        gas.sink(7, 7, true);
        unsupported(gas, "a sink");
        gas.sink(7, 7, false);
        DUE.equal("no sink any more", gas.back(0), 5);
        gas.body(7, 7, true);
        unsupported(gas, "a cell of the body");
        gas.body(7, 7, false);
        DUE.equal("no body any more", gas.back(5), 0);
    }

    private static void unsupported(SixWayGas gas, String name) {
        for (int n = 0; n < 3; n++) {
            int steps = n;
            DUE.thrown("back " + n + " with " + name, "UnsupportedOperationException", () -> gas.back(steps));
        }
        DUE.badArgument("back 65 with " + name, () -> gas.back(65));
        DUE.badArgument("back -1 with " + name, () -> gas.back(-1));
        DUE.equal("time behind it", gas.step(0), 5);
    }
}
