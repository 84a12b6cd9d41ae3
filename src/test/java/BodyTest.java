/** Promises 8 (body), 10 (mass) and 11 (account): the body is pushed and moves. */
public final class BodyTest {
    private static final Due DUE = new Due();

    public static void main(String[] args) {
        masses();
        accounts();
        pushed();
        heavy();
        everyDirection();
        blocked();
        noCells();
        wholeRow();
        exchange();
        massFromNowOn();
        DUE.end();
    }

    private static void masses() {
        SixWayGas gas = new SixWayGas(4, 4);
        for (int m : new int[] {0, -1, 10001, Integer.MIN_VALUE, Integer.MAX_VALUE}) {
            DUE.badArgument("mass " + m, () -> gas.mass(m));
        }
        gas.mass(1);
        gas.mass(10000);
    }

    private static void accounts() {
        SixWayGas gas = new SixWayGas(4, 4);
        for (int field : new int[] {-1, 3, Integer.MIN_VALUE, Integer.MAX_VALUE}) {
            DUE.badArgument("account " + field, () -> gas.account(field));
        }
    }

    /** A body of one cell in (4, 4) that a particle of kind 0 has just hit, if nothing was in the way. */
    private static SixWayGas hit(int mass) {
        SixWayGas gas = new SixWayGas(8, 8);
        gas.mass(mass);
        gas.body(4, 4, true);
        gas.set(3, 4, 1);
        return gas;
    }

    private static void state(SixWayGas gas, String name, int first, int second, int moves) {
        DUE.equal(name + ", first of the account", gas.account(0), first);
        DUE.equal(name + ", second of the account", gas.account(1), second);
        DUE.equal(name + ", moves", gas.account(2), moves);
    }

    private static void pushed() {
        SixWayGas gas = hit(1);
        gas.step(1);
        state(gas, "hit", 1, 0, 1);
        DUE.equal("it gave", gas.book(3, 1), -2);
        DUE.equal("it gave no particle", gas.book(3, 0), 0);
        DUE.equal("left", gas.edge(4, 4), 0);
        DUE.equal("entered", gas.edge(5, 4), 4);
        DUE.equal("the particle went with it", gas.get(5, 4), 8);
        gas.step(1);
        state(gas, "hit, a step later", 0, 0, 2);
        DUE.equal("entered again", gas.edge(6, 4), 4);
        DUE.equal("the particle flew off", gas.get(4, 4), 8);
        gas.set(4, 4, 0);
        gas.step(5);
        state(gas, "at rest", 0, 0, 2);
    }

    private static void heavy() {
        SixWayGas two = hit(2);
        two.step(1);
        state(two, "just enough", 0, 0, 1);
        SixWayGas three = hit(3);
        three.step(1);
        state(three, "not enough", 2, 0, 0);
        DUE.equal("did not move", three.edge(4, 4), 4);
        DUE.equal("its particle", three.get(4, 4), 8);
        SixWayGas usual = new SixWayGas(8, 8);
        usual.body(4, 4, true);
        for (int i = 0; i < 49; i++) {
            push(usual);
        }
        state(usual, "a little less than the usual mass", 98, 0, 0);
        push(usual);
        state(usual, "the usual mass", 0, 0, 1);
        DUE.equal("the usual mass moved", usual.edge(5, 4), 4);
    }

    private static void push(SixWayGas gas) {
        for (int x = 0; x < 8; x++) {
            gas.set(x, 4, 0);
        }
        gas.set(3, 4, 1);
        gas.step(1);
    }

    private static void everyDirection() {
        int[][] momentum = {{1, 0}, {0, 1}, {-1, 1}, {-1, 0}, {0, -1}, {1, -1}};
        int[][] from = {{3, 4}, {3, 5}, {4, 5}, {5, 4}, {4, 3}, {3, 3}};
        int[][] to = {{5, 4}, {4, 3}, {3, 3}, {3, 4}, {3, 5}, {4, 5}};
        for (int d = 0; d < 6; d++) {
            SixWayGas gas = new SixWayGas(8, 8);
            gas.mass(2);
            gas.body(4, 4, true);
            gas.set(from[d][0], from[d][1], 1 << d);
            gas.step(1);
            DUE.equal("moved by " + d, gas.edge(to[d][0], to[d][1]), 4);
            state(gas, "moved by " + d, 0, 0, 1);
            SixWayGas light = new SixWayGas(8, 8);
            light.mass(1);
            light.body(4, 4, true);
            light.set(from[d][0], from[d][1], 1 << d);
            light.step(1);
            // With half the mass a direction beside d comes first where its number is lower.
            int first = d == 5 ? 0 : d == 0 ? 0 : d - 1;
            DUE.equal("light, moved by " + first, light.edge(to[first][0], to[first][1]), 4);
            state(light, "light, hit by " + d, 2 * momentum[d][0] - momentum[first][0],
                    2 * momentum[d][1] - momentum[first][1], 1);
        }
    }

    private static void blocked() {
        for (int sort = 1; sort <= 4; sort++) {
            SixWayGas gas = hit(1);
            if (sort == 1) {
                gas.wall(5, 4, true);
            } else if (sort == 2) {
                gas.source(5, 4, 1);
            } else if (sort == 3) {
                gas.sink(5, 4, true);
            } else {
                gas.body(5, 4, true);
                gas.wall(6, 4, true);
            }
            gas.step(1);
            // Along 1 and 5 the account would do, too: it does not turn aside.
            DUE.equal("blocked by " + sort, gas.edge(4, 4), 4);
            state(gas, "blocked by " + sort, 2, 0, 0);
        }
        SixWayGas gas = hit(1);
        gas.wall(5, 4, true);
        gas.step(1);
        gas.wall(5, 4, false);
        gas.step(1);
        DUE.equal("free again", gas.edge(5, 4), 4);
        state(gas, "free again", 1, 0, 1);
    }

    private static void noCells() {
        SixWayGas gas = hit(1);
        gas.wall(5, 4, true);
        gas.step(1);
        gas.body(4, 4, false);
        gas.step(9);
        state(gas, "no cells", 2, 0, 0);
        gas.set(4, 4, 0);
        gas.body(0, 0, true);
        gas.step(1);
        state(gas, "a cell again", 1, 0, 1);
        DUE.equal("it moved", gas.edge(1, 0), 4);
    }

    private static void wholeRow() {
        SixWayGas gas = new SixWayGas(4, 4);
        gas.mass(1);
        for (int x = 0; x < 4; x++) {
            gas.body(x, 2, true);
        }
        gas.set(0, 2, 1);
        gas.step(1);
        for (int x = 0; x < 4; x++) {
            DUE.equal("row's edge " + x, gas.edge(x, 2), 4);
        }
        DUE.equal("nothing changed places", gas.get(1, 2), 8);
        state(gas, "whole row", 1, 0, 1);
    }

    private static void exchange() {
        // Moves by 0 from (3, 2), (4, 2), (2, 3): entered (5, 2), (3, 3); left (3, 2), (2, 3).
        SixWayGas gas = new SixWayGas(8, 8);
        gas.mass(2);
        gas.body(3, 2, true);
        gas.body(4, 2, true);
        gas.body(2, 3, true);
        gas.set(2, 2, 1);
        gas.set(3, 2, 64);
        gas.set(4, 2, 64);
        gas.set(5, 2, 64);
        gas.set(6, 2, 8);
        gas.set(2, 3, 64);
        gas.step(1);
        state(gas, "exchange", 0, 0, 1);
        DUE.equal("first that became", gas.get(5, 2), 8 | 64);
        DUE.equal("first that is not any more", gas.get(3, 2), 8 | 64);
        DUE.equal("stayed the body's", gas.get(4, 2), 64);
        DUE.equal("second that became", gas.get(3, 3), 64);
        DUE.equal("second that is not any more", gas.get(2, 3), 0);
        DUE.equal("edge of the first that became", gas.edge(5, 2), 4);
        DUE.equal("edge of the second that became", gas.edge(3, 3), 4);
        DUE.equal("edge of the one that stayed", gas.edge(4, 2), 4);
        DUE.equal("edge of the first that is not", gas.edge(3, 2), 0);
        DUE.equal("edge of the second that is not", gas.edge(2, 3), 0);
    }

    private static void massFromNowOn() {
        SixWayGas gas = hit(3);
        gas.step(1);
        gas.mass(2);
        state(gas, "mass alone moves nothing", 2, 0, 0);
        gas.step(1);
        state(gas, "lighter", 0, 0, 1);
    }
}
