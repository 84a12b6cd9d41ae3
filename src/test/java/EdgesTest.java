/** Promises 5 (wall), 6 (source), 7 (sink), 8 (body) and 9 (edge). */
public final class EdgesTest {
    private static final Due DUE = new Due();

    public static void main(String[] args) {
        onAndOff();
        oneOfThese();
        sourceRates();
        behindABodyThatMoved();
        bitsAndEdgesAreTwoThings();
        setInEverySort();
        DUE.end();
    }

    private interface Sort {
        boolean put(SixWayGas gas, boolean on);
    }

    private static final Sort[] SORTS = {
        (gas, on) -> gas.wall(2, 3, on),
        (gas, on) -> {
            gas.source(2, 3, on ? 17 : 0);
            return true;
        },
        (gas, on) -> gas.sink(2, 3, on),
        (gas, on) -> gas.body(2, 3, on),
    };

    private static void onAndOff() {
        for (int sort = 0; sort < 4; sort++) {
            boolean tells = sort != 1;
            SixWayGas gas = new SixWayGas(4, 4);
            String name = "sort " + sort + " ";
            DUE.yes(name + "off when it is none", !tells || !SORTS[sort].put(gas, false));
            DUE.equal(name + "edge then", gas.edge(2, 3), 0);
            DUE.yes(name + "on", SORTS[sort].put(gas, true));
            DUE.equal(name + "edge then", gas.edge(2, 3), sort + 1);
            DUE.yes(name + "on again", !tells || !SORTS[sort].put(gas, true));
            DUE.equal(name + "edge then", gas.edge(2, 3), sort + 1);
            DUE.equal(name + "edge elsewhere", gas.edge(3, 2), 0);
            DUE.yes(name + "off", SORTS[sort].put(gas, false));
            DUE.equal(name + "edge then", gas.edge(2, 3), 0);
            DUE.yes(name + "off again", !tells || !SORTS[sort].put(gas, false));
        }
    }

    private static void oneOfThese() {
        for (int is = 0; is < 4; is++) {
            for (int other = 0; other < 4; other++) {
                if (is == other) {
                    continue;
                }
                Sort asked = SORTS[other];
                SixWayGas gas = new SixWayGas(4, 4);
                SORTS[is].put(gas, true);
                String name = "sort " + other + " in sort " + is;
                DUE.badState(name + " on", () -> asked.put(gas, true));
                DUE.badState(name + " off", () -> asked.put(gas, false));
                DUE.equal(name + " edge", gas.edge(2, 3), is + 1);
                SORTS[is].put(gas, false);
                asked.put(gas, true);
                DUE.equal(name + " edge behind", gas.edge(2, 3), other + 1);
            }
        }
    }

    private static void sourceRates() {
        SixWayGas gas = new SixWayGas(4, 4);
        gas.wall(0, 0, true);
        for (int rate : new int[] {-1, 257, Integer.MIN_VALUE, Integer.MAX_VALUE}) {
            DUE.badArgument("source " + rate, () -> gas.source(1, 1, rate));
            DUE.badArgument("source in a wall " + rate, () -> gas.source(0, 0, rate));
        }
        DUE.equal("edge behind refused rates", gas.edge(1, 1), 0);
        gas.source(1, 1, 1);
        DUE.equal("edge of rate 1", gas.edge(1, 1), 2);
        DUE.badArgument("source 257 in a source", () -> gas.source(1, 1, 257));
        gas.source(1, 1, 256);
        gas.step(1);
        DUE.equal("the last rate counts", gas.get(1, 1), 127);
        gas.source(1, 1, 0);
        DUE.equal("edge of rate 0", gas.edge(1, 1), 0);
        DUE.equal("its particles stay", gas.get(1, 1), 127);
    }

    /** Which cells are the body's is what its move made of it: what is new goes by that. */
    private static void behindABodyThatMoved() {
        SixWayGas gas = new SixWayGas(8, 8);
        gas.mass(2);
        gas.body(4, 4, true);
        gas.set(3, 4, 1);
        gas.step(1);
        DUE.badState("wall where the body is now", () -> gas.wall(5, 4, true));
        DUE.badState("source where the body is now", () -> gas.source(5, 4, 1));
        DUE.badState("sink where the body is now", () -> gas.sink(5, 4, true));
        DUE.no("the body where it is now", gas.body(5, 4, true));
        DUE.no("no body where it was", gas.body(4, 4, false));
        DUE.yes("wall where the body was", gas.wall(4, 4, true));
        DUE.badState("the body where a wall is now", () -> gas.body(4, 4, true));
        DUE.yes("no body where it is now", gas.body(5, 4, false));
        DUE.equal("edge then", gas.edge(5, 4), 0);
        DUE.equal("the particle stays", gas.get(5, 4), 8);
    }

    /** An edge comes and goes without a change of particles, marks or books. */
    private static void bitsAndEdgesAreTwoThings() {
        for (int sort = 0; sort < 4; sort++) {
            SixWayGas gas = new SixWayGas(4, 4);
            gas.set(2, 3, 127);
            gas.mark(2, 3, 4);
            for (int i = 0; i < 4; i++) {
                SORTS[sort].put(gas, i % 2 == 0);
                DUE.equal("bits, sort " + sort, gas.get(2, 3), 127);
                DUE.equal("mark, sort " + sort, gas.marked(0), Hex.place(2, 3, 4));
                DUE.equal("book, sort " + sort, gas.book(sort, 0), 0);
            }
        }
    }

    /** Any cell gets bits, whatever it is, and stays what it is. */
    private static void setInEverySort() {
        for (int sort = 0; sort < 4; sort++) {
            SixWayGas gas = new SixWayGas(4, 4);
            SORTS[sort].put(gas, true);
            for (int bits : new int[] {0, 1, 64, 127}) {
                gas.set(2, 3, bits);
                DUE.equal("bits " + bits + " set in sort " + sort, gas.get(2, 3), bits);
                DUE.equal("edge behind bits set in sort " + sort, gas.edge(2, 3), sort + 1);
                DUE.equal("book behind bits set in sort " + sort, gas.book(sort, 0), 0);
            }
        }
    }
}
