import java.math.BigInteger;

/**
 * "EDGES, for the cells row by row", and what goes into the BOOKS for it: here all bits, from none
 * to full, arrive in a wall, a cell of the body, a sink and a source, and every rate and seed that
 * lies on a boundary is tried.
 */
public final class ArrivalTest {
    private static final int SIZE = 8;
    private static final BigInteger FACTOR = BigInteger.valueOf(1103515245);
    private static final BigInteger ADDED = BigInteger.valueOf(12345);
    private static final Due DUE = new Due();

    public static void main(String[] args) {
        for (int bits = 0; bits <= 127; bits++) {
            inWall(bits);
            inBody(bits);
            inSink(bits);
            inSource(bits);
        }
        severalOfOneSort();
        everySortAtOnce();
        lessThanTheRate();
        leastAndMostRate();
        seedsThatWrap();
        firstSeed();
        seedFromNowOn();
        sourcesRowByRow();
        fullSourceStillDraws();
        noSourceDrawsNothing();
        DUE.end();
    }

    private static void arrive(SixWayGas gas, int bits) {
        Hex.arrive(gas, 4, 4, bits, SIZE, SIZE);
    }

    /** What a book holds when bits became others; all other books are to be empty. */
    private static void books(SixWayGas gas, String name, int kind, int before, int after) {
        for (int i = 0; i < 12; i++) {
            int field = i % 3;
            int due = i / 3 == kind ? Hex.amount(after, field) - Hex.amount(before, field) : 0;
            DUE.equal(name + ", book " + i / 3 + ", " + field, gas.book(i / 3, field), due);
        }
    }

    /** "in a WALL or cell of the BODY each particle of a kind k of 0 .. 5 becomes one of kind k + 3" */
    private static void inWall(int bits) {
        SixWayGas gas = new SixWayGas(SIZE, SIZE);
        gas.wall(4, 4, true);
        arrive(gas, bits);
        gas.step(1);
        DUE.equal("wall reached by " + bits, gas.get(4, 4), Hex.turnedRound(bits));
        books(gas, "wall reached by " + bits, 0, bits, Hex.turnedRound(bits));
        DUE.equal("account behind a wall", gas.account(0), 0);
        gas.back(1);
        books(gas, "wall left back by " + bits, 0, 0, 0);
    }

    /** "The body's ACCOUNT is what it got: two numbers, at first 0, that get less what it gives." */
    private static void inBody(int bits) {
        SixWayGas gas = new SixWayGas(SIZE, SIZE);
        gas.mass(10000);
        gas.body(4, 4, true);
        arrive(gas, bits);
        gas.step(1);
        String name = "body reached by " + bits;
        DUE.equal(name, gas.get(4, 4), Hex.turnedRound(bits));
        books(gas, name, 3, bits, Hex.turnedRound(bits));
        for (int field = 0; field < 2; field++) {
            int given = Hex.amount(Hex.turnedRound(bits), field + 1) - Hex.amount(bits, field + 1);
            DUE.equal(name + ", account " + field, gas.account(field), -given);
        }
    }

    /** "A SINK loses all its particles." */
    private static void inSink(int bits) {
        SixWayGas gas = new SixWayGas(SIZE, SIZE);
        gas.sink(4, 4, true);
        arrive(gas, bits);
        gas.step(1);
        DUE.equal("sink reached by " + bits, gas.get(4, 4), 0);
        DUE.equal("grid behind it", gas.check(), 0);
        books(gas, "sink reached by " + bits, 2, bits, 0);
    }

    /** "if .. and it has no such particle, it gets one": the seed goes on for those that it has, too. */
    private static void inSource(int bits) {
        for (int rate : new int[] {1, 100, 128, 256}) {
            SixWayGas gas = new SixWayGas(SIZE, SIZE);
            gas.seed(bits * 77777);
            gas.source(4, 4, rate);
            gas.source(4, 7, 128);
            arrive(gas, bits);
            gas.step(1);
            Draws draws = new Draws(bits * 77777);
            int fed = bits | draws.bits(rate);
            String name = "source of " + rate + " reached by " + bits;
            DUE.equal(name, gas.get(4, 4), fed);
            int other = draws.bits(128);
            DUE.equal(name + ", the next source", gas.get(4, 7), other);
            for (int field = 0; field < 3; field++) {
                DUE.equal(name + ", book " + field, gas.book(1, field),
                        Hex.amount(fed, field) - Hex.amount(bits, field) + Hex.amount(other, field));
            }
        }
    }

    /** "added up over all edges of that sort" and over all steps */
    private static void severalOfOneSort() {
        SixWayGas gas = new SixWayGas(SIZE, SIZE);
        gas.wall(4, 1, true);
        gas.wall(4, 4, true);
        gas.sink(1, 1, true);
        gas.sink(1, 4, true);
        for (int steps = 1; steps <= 5; steps++) {
            for (int y = 1; y <= 4; y += 3) {
                gas.set(2, y, 8);
                gas.set(3, y, 1);
                gas.set(4, y, 0);
            }
            gas.step(1);
            DUE.equal("two walls, " + steps + " steps", gas.book(0, 1), -4 * steps);
            DUE.equal("two sinks, " + steps + " steps", gas.book(2, 0), -2 * steps);
            DUE.equal("two sinks' momentum, " + steps + " steps", gas.book(2, 1), 2 * steps);
        }
    }

    /** "what is there, what was given and what was taken balance at every step" */
    private static void everySortAtOnce() {
        SixWayGas gas = new SixWayGas(4, 4);
        gas.mass(1);
        for (int i = 0; i < 16; i++) {
            gas.set(i % 4, i / 4, 127 - 5 * i);
        }
        int[] first = {gas.sum(0, 0, 4, 4, 0), gas.sum(0, 0, 4, 4, 1), gas.sum(0, 0, 4, 4, 2)};
        gas.wall(1, 0, true);
        gas.source(3, 0, 120);
        gas.sink(2, 3, true);
        gas.body(0, 2, true);
        for (int i = 0; i < 24; i++) {
            gas.step(1);
            for (int field = 0; field < 3; field++) {
                int given = gas.book(0, field) + gas.book(1, field) + gas.book(2, field) + gas.book(3, field);
                DUE.equal("field " + field + " at " + i, gas.sum(0, 0, 4, 4, field), first[field] + given);
            }
        }
    }

    /** "if (seed >>> 16) & 255 is less than the rate": one less, just the rate, one more. */
    private static void lessThanTheRate() {
        for (int seed = -60; seed <= 60; seed++) {
            for (int kind = 0; kind < 7; kind++) {
                int drawn = new Draws(seed * 9999991).value(kind);
                for (int rate = Math.max(1, drawn - 1); rate <= Math.min(256, drawn + 2); rate++) {
                    SixWayGas gas = new SixWayGas(4, 4);
                    gas.seed(seed * 9999991);
                    gas.source(1, 2, rate);
                    gas.step(1);
                    DUE.equal("kind " + kind + " of " + drawn + " at rate " + rate,
                            gas.get(1, 2) >> kind & 1, drawn < rate ? 1 : 0);
                }
            }
        }
    }

    /** "RATE (1 .. 256)": with 1 a source gives where 0 was drawn alone, with 256 it gives always. */
    private static void leastAndMostRate() {
        // The seed 0 draws 0, 220, 4, 101, 170, 31, 173, and the seed 2 draws 140, 33, 255, 114, 237, 215, 24.
        gives(0, 1, 1);
        gives(1, 1, 0);
        gives(0, 4, 1);
        gives(0, 5, 5);
        gives(2, 255, 123);
        gives(2, 256, 127);
        gives(0, 256, 127);
    }

    private static void gives(int seed, int rate, int bits) {
        SixWayGas gas = new SixWayGas(4, 4);
        gas.seed(seed);
        gas.source(1, 1, rate);
        gas.step(1);
        DUE.equal("seed " + seed + " at rate " + rate, gas.get(1, 1), bits);
    }

    /** "the seed becomes seed * 1103515245 + 12345 (an int, wrapping)": 1 and -1 do not wrap, 2 and -2 do. */
    private static void seedsThatWrap() {
        gives(1, 128, 26);
        gives(2, 128, 74);
        gives(-1, 128, 123);
        gives(-2, 128, 125);
        gives(Integer.MAX_VALUE, 128, 123);
        gives(Integer.MIN_VALUE, 128, 45);
        for (int seed : new int[] {0, 1, 2, -1, -2, Integer.MAX_VALUE, Integer.MIN_VALUE, 1 << 16, -(1 << 16)}) {
            SixWayGas gas = new SixWayGas(4, 4);
            gas.seed(seed);
            gas.source(2, 2, 128);
            Draws draws = new Draws(seed);
            for (int i = 0; i < 20; i++) {
                for (int cell = 0; cell < 16; cell++) {
                    gas.set(cell % 4, cell / 4, 0);
                }
                gas.step(1);
                DUE.equal("seed " + seed + ", turn " + i, gas.get(2, 2), draws.bits(128));
            }
        }
    }

    /** "at first it is 0" */
    private static void firstSeed() {
        SixWayGas gas = new SixWayGas(4, 4);
        gas.source(1, 1, 128);
        gas.step(1);
        DUE.equal("the first seed", gas.get(1, 1), 45);
    }

    private static void seedFromNowOn() {
        SixWayGas gas = new SixWayGas(4, 4);
        gas.seed(5);
        gas.source(1, 1, 256);
        gas.step(7);
        gas.source(1, 1, 0);
        for (int i = 0; i < 16; i++) {
            gas.set(i % 4, i / 4, 0);
        }
        gas.seed(2);
        gas.source(1, 1, 128);
        gas.step(1);
        DUE.equal("a seed given later", gas.get(1, 1), 74);
    }

    /** The last cell of a row is before the first of the next, and a higher one before a lower one. */
    private static void sourcesRowByRow() {
        int[][] cells = {{0, 0}, {5, 0}, {0, 1}, {5, 1}, {3, 2}, {0, 3}, {5, 3}};
        for (int seed = 1; seed < 20; seed++) {
            SixWayGas gas = new SixWayGas(6, 4);
            gas.seed(seed);
            // They are made the other way round: the order of these calls is not to count.
            for (int i = cells.length - 1; i >= 0; i--) {
                gas.source(cells[i][0], cells[i][1], 100 + 10 * i);
            }
            gas.step(1);
            Draws draws = new Draws(seed);
            for (int i = 0; i < cells.length; i++) {
                DUE.equal("source " + i + " row by row", gas.get(cells[i][0], cells[i][1]), draws.bits(100 + 10 * i));
            }
        }
    }

    private static void fullSourceStillDraws() {
        SixWayGas gas = new SixWayGas(SIZE, SIZE);
        gas.source(4, 4, 256);
        gas.source(0, 7, 128);
        arrive(gas, 127);
        gas.step(1);
        DUE.equal("a full source", gas.get(4, 4), 127);
        Draws draws = new Draws(0);
        draws.bits(256);
        int given = draws.bits(128);
        DUE.equal("the source behind a full one", gas.get(0, 7), given);
        DUE.equal("a full source gives nothing", gas.book(1, 0), Integer.bitCount(given));
    }

    /** "or none any more (rate 0)" */
    private static void noSourceDrawsNothing() {
        SixWayGas gas = new SixWayGas(SIZE, SIZE);
        gas.source(4, 4, 256);
        gas.source(4, 4, 0);
        gas.source(3, 3, 0);
        gas.step(9);
        DUE.equal("without a source", gas.check(), 0);
        DUE.equal("the book without a source", gas.book(1, 0), 0);
        gas.source(0, 7, 128);
        gas.step(1);
        DUE.equal("the seed stood still", gas.get(0, 7), 45);
    }

    /** What a source draws, with a seed that is held without any bound but its 32 bits. */
    private static final class Draws {
        private BigInteger seed;

        Draws(int first) {
            seed = BigInteger.valueOf(first & 0xFFFFFFFFL);
        }

        private int next() {
            seed = seed.multiply(FACTOR).add(ADDED).mod(BigInteger.ONE.shiftLeft(32));
            return seed.shiftRight(16).mod(BigInteger.valueOf(256)).intValue();
        }

        int value(int index) {
            for (int i = 0; i < index; i++) {
                next();
            }
            return next();
        }

        int bits(int rate) {
            int bits = 0;
            for (int kind = 0; kind < 7; kind++) {
                bits += next() < rate ? 1 << kind : 0;
            }
            return bits;
        }
    }
}
