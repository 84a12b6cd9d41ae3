/**
 * "THE BODY'S MOVE": when the account is just twice the mass, a little less and a little more;
 * which direction is the first; when its way is not free; which cells change their particles.
 */
public final class BodyMoveTest {
    private static final int SIZE = 8;
    private static final int X = 4;
    private static final int Y = 4;
    private static final Due DUE = new Due();

    public static void main(String[] args) {
        for (int direction = 0; direction < 6; direction++) {
            justTwiceTheMass(direction);
            oddAccounts(direction);
            firstOfTwoDirections(direction);
            firstOfThreeDirections(direction);
            wayNotFree(direction);
            onlyTheWayAheadCounts(direction);
            itsOwnCellsAreNoObstacle(direction);
            noCellsNoMove(direction);
            everyCellIsTheBodys(direction);
        }
        oneMoveAStep();
        leastMass();
        greatestMass();
        massAtFirst();
        nothingPushes();
        changedPlacesInARow();
        changedPlacesOverTheBorder();
        changedPlacesWithinTheBody();
        DUE.end();
    }

    /** A body in (X, Y) that got hits by a direction, each of them twice its momentum, and moved not yet. */
    private static SixWayGas hit(int direction, int hits) {
        SixWayGas gas = new SixWayGas(SIZE, SIZE);
        gas.body(X, Y, true);
        hitAgain(gas, X, Y, direction, hits);
        return gas;
    }

    private static void hitAgain(SixWayGas gas, int x, int y, int direction, int hits) {
        gas.mass(10000);
        int[] from = Hex.neighbour(x, y, direction + 3, SIZE, SIZE);
        for (int i = 0; i < hits; i++) {
            gas.set(from[0], from[1], 1 << direction);
            gas.step(1);
            gas.set(x, y, 0);
        }
    }

    private static int[] ahead(int direction) {
        return Hex.neighbour(X, Y, direction, SIZE, SIZE);
    }

    /** The account is so many times the momentum of a direction and of the next one. */
    private static void account(SixWayGas gas, String name, int direction, int times, int timesNext) {
        int next = (direction + 1) % 6;
        for (int field = 0; field < 2; field++) {
            DUE.equal(name + ", account " + field, gas.account(field),
                    times * Hex.MOMENTUM[direction][field] + timesNext * Hex.MOMENTUM[next][field]);
        }
    }

    private static void stays(SixWayGas gas, String name) {
        int before = gas.account(2);
        gas.step(1);
        DUE.equal(name + ", moves", gas.account(2), before);
        DUE.equal(name + ", its cell", gas.edge(X, Y), 4);
    }

    private static void moves(SixWayGas gas, String name, int direction) {
        int before = gas.account(2);
        gas.step(1);
        int[] to = ahead(direction);
        DUE.equal(name + ", moves", gas.account(2), before + 1);
        DUE.equal(name + ", its old cell", gas.edge(X, Y), 0);
        DUE.equal(name + ", its new cell by " + direction, gas.edge(to[0], to[1]), 4);
    }

    /** "along which its account is twice the mass or more": 8 with the mass 5, 4 and 3. */
    private static void justTwiceTheMass(int direction) {
        String name = "hit twice by " + direction;
        SixWayGas less = hit(direction, 2);
        account(less, name, direction, 4, 0);
        less.mass(5);
        stays(less, name + ", less than twice the mass");
        account(less, name + ", less than twice the mass", direction, 4, 0);
        SixWayGas just = hit(direction, 2);
        just.mass(4);
        moves(just, name + ", just twice the mass", direction);
        account(just, name + ", just twice the mass", direction, 0, 0);
        SixWayGas more = hit(direction, 2);
        more.mass(3);
        moves(more, name + ", more than twice the mass", direction);
        account(more, name + ", more than twice the mass", direction, 1, 0);
    }

    /** An account of 4 along a direction and 5 along the next one: one less than 6, and one more than 4. */
    private static void oddAccounts(int direction) {
        int next = (direction + 1) % 6;
        for (int mass = 2; mass <= 3; mass++) {
            SixWayGas gas = hit(direction, 2);
            gas.mass(3);
            gas.step(1);
            int[] now = ahead(direction);
            hitAgain(gas, now[0], now[1], next, 1);
            String name = "odd account by " + direction + ", mass " + mass;
            account(gas, name, direction, 1, 2);
            gas.mass(mass);
            gas.step(1);
            int by = Math.min(direction, next);
            int[] to = Hex.neighbour(now[0], now[1], by, SIZE, SIZE);
            DUE.equal(name + ", moves", gas.account(2), mass == 2 ? 2 : 1);
            DUE.equal(name + ", its old cell", gas.edge(now[0], now[1]), mass == 2 ? 0 : 4);
            DUE.equal(name + ", its new cell", gas.edge(to[0], to[1]), mass == 2 ? 4 : 0);
        }
    }

    /** "It moves by the first direction along which ..": 6 along two directions. */
    private static void firstOfTwoDirections(int direction) {
        int next = (direction + 1) % 6;
        SixWayGas gas = hit(direction, 1);
        hitAgain(gas, X, Y, next, 1);
        String name = "hit by " + direction + " and the next";
        account(gas, name, direction, 2, 2);
        gas.mass(4);
        stays(gas, name + ", too heavy");
        gas.mass(3);
        int first = Math.min(direction, next);
        moves(gas, name, first);
        account(gas, name + ", moved", direction, first == direction ? -1 : 2, first == direction ? 2 : -1);
    }

    /** 8 along a direction, 4 along those on both sides of it: with the mass 2 all three would do. */
    private static void firstOfThreeDirections(int direction) {
        int[] first = {0, 0, 1, 2, 3, 0};
        SixWayGas gas = hit(direction, 2);
        gas.mass(2);
        moves(gas, "three directions round " + direction, first[direction]);
    }

    private static void oneMoveAStep() {
        SixWayGas gas = hit(0, 4);
        String name = "far more than twice the mass";
        gas.mass(3);
        moves(gas, name, 0);
        account(gas, name, 0, 5, 0);
        gas.step(1);
        DUE.equal(name + ", the second step's", gas.account(2), 2);
        account(gas, name + ", the second step's", 0, 2, 0);
        gas.step(1);
        DUE.equal(name + ", no third", gas.account(2), 2);
    }

    /** "if the neighbour by d of one of its cells is a wall, source or sink, it does not move" */
    private static void wayNotFree(int direction) {
        // The first, the middle and the last of its cells, row by row, each with a neighbour that is none of them.
        int[][] cells = {{2, 2}, {X, Y}, {6, 6}};
        for (int sort = 1; sort <= 3; sort++) {
            for (int[] cell : cells) {
                SixWayGas gas = hit(direction, 2);
                for (int[] each : cells) {
                    gas.body(each[0], each[1], true);
                }
                gas.set(2, 2, 64);
                int[] obstacle = Hex.neighbour(cell[0], cell[1], direction, SIZE, SIZE);
                put(gas, sort, obstacle);
                gas.mass(4);
                String name = "way by " + direction + " not free before " + cell[0] + " by sort " + sort;
                stays(gas, name);
                account(gas, name, direction, 4, 0);
                DUE.equal(name + ", its first cell", gas.edge(2, 2), 4);
                DUE.equal(name + ", its last cell", gas.edge(6, 6), 4);
                DUE.equal(name + ", its particle", gas.get(2, 2), 64);
                DUE.equal(name + ", the obstacle", gas.edge(obstacle[0], obstacle[1]), sort);
                takeAway(gas, sort, obstacle);
                moves(gas, name + ", then free", direction);
                account(gas, name + ", then free", direction, 0, 0);
                DUE.equal(name + ", then free, the obstacle's cell", gas.edge(obstacle[0], obstacle[1]), 4);
            }
        }
    }

    private static void put(SixWayGas gas, int sort, int[] cell) {
        if (sort == 1) {
            gas.wall(cell[0], cell[1], true);
        } else if (sort == 2) {
            // With this seed a source of rate 1 gives nothing in the first step.
            gas.seed(1);
            gas.source(cell[0], cell[1], 1);
        } else {
            gas.sink(cell[0], cell[1], true);
        }
    }

    private static void takeAway(SixWayGas gas, int sort, int[] cell) {
        if (sort == 1) {
            gas.wall(cell[0], cell[1], false);
        } else if (sort == 2) {
            gas.source(cell[0], cell[1], 0);
        } else {
            gas.sink(cell[0], cell[1], false);
        }
    }

    private static void onlyTheWayAheadCounts(int direction) {
        SixWayGas gas = hit(direction, 2);
        for (int other = 0; other < 6; other++) {
            if (other != direction) {
                put(gas, 1 + other % 3, ahead(other));
            }
        }
        int[] beyond = ahead(direction);
        int[] next = Hex.neighbour(beyond[0], beyond[1], direction, SIZE, SIZE);
        put(gas, 1, next);
        gas.mass(4);
        moves(gas, "all but the way ahead is closed by " + direction, direction);
    }

    private static void itsOwnCellsAreNoObstacle(int direction) {
        SixWayGas gas = hit(direction, 2);
        int[] second = ahead(direction);
        int[] third = Hex.neighbour(second[0], second[1], direction, SIZE, SIZE);
        gas.body(second[0], second[1], true);
        gas.mass(4);
        moves(gas, "two cells by " + direction, direction);
        DUE.equal("two cells by " + direction + ", the foremost", gas.edge(third[0], third[1]), 4);
    }

    /** "if there is none, or it has no cells, it does not move" */
    private static void noCellsNoMove(int direction) {
        SixWayGas gas = hit(direction, 2);
        gas.body(X, Y, false);
        gas.mass(4);
        gas.step(3);
        String name = "no cells, hit by " + direction;
        DUE.equal(name + ", moves", gas.account(2), 0);
        account(gas, name, direction, 4, 0);
        gas.body(X, Y, true);
        moves(gas, name + ", then one cell", direction);
    }

    /** "there are as many": here none that became the body's, and none that is not any more. */
    private static void everyCellIsTheBodys(int direction) {
        SixWayGas gas = hit(direction, 2);
        for (int i = 0; i < SIZE * SIZE; i++) {
            gas.body(i % SIZE, i / SIZE, true);
        }
        gas.set(1, 1, 64);
        gas.mass(4);
        gas.step(1);
        String name = "every cell the body's, by " + direction;
        DUE.equal(name + ", moves", gas.account(2), 1);
        account(gas, name, direction, 0, 0);
        DUE.equal(name + ", the particle", gas.get(1, 1), 64);
        for (int i = 0; i < SIZE * SIZE; i++) {
            DUE.equal(name + ", cell " + i, gas.edge(i % SIZE, i / SIZE), 4);
        }
    }

    private static void leastMass() {
        SixWayGas gas = hit(0, 1);
        gas.mass(1);
        moves(gas, "the least mass", 0);
        account(gas, "the least mass", 0, 1, 0);
        gas.step(1);
        account(gas, "the least mass again", 0, 0, 0);
        DUE.equal("the least mass again, moves", gas.account(2), 2);
        gas.step(1);
        DUE.equal("the least mass, no third move", gas.account(2), 2);
    }

    /** Particles fly to and fro between a column of walls and the body's: it gets 20 in two steps out of four. */
    private static void greatestMass() {
        SixWayGas gas = new SixWayGas(16, 10);
        gas.mass(10000);
        for (int y = 0; y < 10; y++) {
            gas.wall(2, y, true);
            gas.body(4, y, true);
            gas.set(3, y, 1);
            gas.set(2, y, 1);
        }
        for (int i = 0; i < 15; i++) {
            gas.step(64);
        }
        gas.step(37);
        DUE.equal("the account before the greatest mass moves", gas.account(0), 9980);
        DUE.equal("the greatest mass, moves before", gas.account(2), 0);
        gas.step(1);
        DUE.equal("the greatest mass, moves", gas.account(2), 1);
        DUE.equal("the greatest mass, account behind it", gas.account(0), 0);
        DUE.equal("the greatest mass, what it gave", gas.book(3, 1), -10000);
        DUE.equal("the greatest mass, its new cells", gas.edge(5, 9), 4);
        DUE.equal("the greatest mass, its old cells", gas.edge(4, 9), 0);
    }

    /** "at first 100": an account of 196, then of 200. */
    private static void massAtFirst() {
        SixWayGas gas = new SixWayGas(SIZE, SIZE);
        gas.body(X, Y, true);
        for (int hits = 1; hits <= 50; hits++) {
            DUE.equal("usual mass, moves before hit " + hits, gas.account(2), 0);
            gas.set(X - 1, Y, 1);
            gas.step(1);
            gas.set(X, Y, 0);
        }
        DUE.equal("usual mass, moves", gas.account(2), 1);
        DUE.equal("usual mass, account", gas.account(0), 0);
    }

    private static void nothingPushes() {
        SixWayGas gas = new SixWayGas(SIZE, SIZE);
        gas.mass(1);
        gas.body(X, Y, true);
        gas.set(X, Y, 64);
        gas.step(64);
        DUE.equal("nothing pushes, moves", gas.account(2), 0);
        DUE.equal("nothing pushes, its cell", gas.edge(X, Y), 4);
    }

    /** A body that has an account for one move by a direction, but no cells. */
    private static SixWayGas pushed(int direction) {
        SixWayGas gas = hit(direction, 2);
        gas.mass(4);
        gas.body(X, Y, false);
        return gas;
    }

    private static void restAndMark(SixWayGas gas, int x, int y) {
        gas.set(x, y, 64);
        gas.mark(x, y, 6);
    }

    /** (2, 2) and (5, 2) become (3, 2) and (6, 2): the first changes with the first, the second with the second. */
    private static void changedPlacesInARow() {
        SixWayGas gas = pushed(0);
        gas.body(2, 2, true);
        gas.body(5, 2, true);
        restAndMark(gas, 2, 2);
        restAndMark(gas, 3, 2);
        restAndMark(gas, 5, 2);
        gas.step(1);
        DUE.equal("from (2, 2)", gas.marked(0), Hex.place(3, 2, 6));
        DUE.equal("from (3, 2)", gas.marked(1), Hex.place(2, 2, 6));
        DUE.equal("from (5, 2)", gas.marked(2), Hex.place(6, 2, 6));
        DUE.equal("nothing came from (6, 2)", gas.get(5, 2), 0);
    }

    /** Over the border the first that became the body's need not be the neighbour of the first that was. */
    private static void changedPlacesOverTheBorder() {
        // By 0: (0, 2) and (4, 2) become the body's, (3, 2) and (7, 2) are not any more.
        changedPlaces(0, new int[][] {{7, 2}, {3, 2}}, new int[][] {{0, 2}, {4, 2}}, new int[][] {{3, 2}, {7, 2}});
        // By 1: (3, 2) and (2, 7) become the body's, (2, 0) and (2, 3) are not any more.
        changedPlaces(1, new int[][] {{2, 3}, {2, 0}}, new int[][] {{3, 2}, {2, 7}}, new int[][] {{2, 0}, {2, 3}});
        // By 5: (5, 0) and (4, 3) become the body's, (4, 2) and (4, 7) are not any more.
        changedPlaces(5, new int[][] {{4, 7}, {4, 2}}, new int[][] {{5, 0}, {4, 3}}, new int[][] {{4, 2}, {4, 7}});
    }

    private static void changedPlaces(int direction, int[][] cells, int[][] became, int[][] ceased) {
        SixWayGas gas = pushed(direction);
        for (int[] cell : cells) {
            gas.body(cell[0], cell[1], true);
        }
        for (int i = 0; i < 2; i++) {
            restAndMark(gas, became[i][0], became[i][1]);
            restAndMark(gas, ceased[i][0], ceased[i][1]);
        }
        gas.step(1);
        for (int i = 0; i < 2; i++) {
            String name = "pair " + i + " by " + direction;
            DUE.equal(name + ", into the body", gas.marked(2 * i + 1), Hex.place(became[i][0], became[i][1], 6));
            DUE.equal(name + ", out of its way", gas.marked(2 * i), Hex.place(ceased[i][0], ceased[i][1], 6));
            DUE.equal(name + ", became", gas.edge(became[i][0], became[i][1]), 4);
            DUE.equal(name + ", is not any more", gas.edge(ceased[i][0], ceased[i][1]), 0);
        }
    }

    /** Of three cells in a row the foremost and the hindmost change alone: the others keep theirs. */
    private static void changedPlacesWithinTheBody() {
        SixWayGas gas = pushed(0);
        for (int x = 2; x <= 4; x++) {
            gas.body(x, 2, true);
            restAndMark(gas, x, 2);
        }
        restAndMark(gas, 5, 2);
        gas.step(1);
        DUE.equal("the hindmost's", gas.marked(0), Hex.place(5, 2, 6));
        DUE.equal("the second's", gas.marked(1), Hex.place(3, 2, 6));
        DUE.equal("the third's", gas.marked(2), Hex.place(4, 2, 6));
        DUE.equal("the one ahead", gas.marked(3), Hex.place(2, 2, 6));
    }
}
