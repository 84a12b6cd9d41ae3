import java.util.function.Consumer;

/**
 * "A call that throws changes nothing; where several exceptions that a call names fit, it is the
 * one that it names first. All calls for a cell that is none are refused with
 * IndexOutOfBoundsException." Here is every call of the face that can be refused, just beyond each
 * of its boundaries and far beyond them, with nothing changed behind it.
 */
public final class RefusedTest {
    private static final int COLUMNS = 6;
    private static final int ROWS = 4;
    private static final int[][] NO_CELLS = {{-1, 0}, {COLUMNS, 0}, {0, -1}, {0, ROWS}, {-1, -1}, {COLUMNS, ROWS},
        {-1, ROWS - 1}, {COLUMNS - 1, ROWS}, {COLUMNS, ROWS - 1}, {16, 0}, {0, 16},
        {Integer.MIN_VALUE, 0}, {Integer.MAX_VALUE, 0}, {0, Integer.MIN_VALUE}, {0, Integer.MAX_VALUE}};

    private static final Due DUE = new Due();
    private static final Twins BUSY = new Twins(DUE, "busy", COLUMNS, ROWS, RefusedTest::busy);
    private static final Twins FULL = new Twins(DUE, "four marks", COLUMNS, ROWS, RefusedTest::withFourMarks);
    private static final Twins LOST = new Twins(DUE, "lost marks", COLUMNS, ROWS, RefusedTest::withLostMarks);
    private static final Twins WALLS = new Twins(DUE, "walls", COLUMNS, ROWS, RefusedTest::withWallsAlone);
    private static final Twins FRESH = new Twins(DUE, "new", COLUMNS, ROWS, () -> new SixWayGas(COLUMNS, ROWS));

    public static void main(String[] args) {
        everyCallForNoCell();
        set();
        rule();
        wallSinkAndBody();
        source();
        mass();
        account();
        step();
        back();
        backWithOthersThanWalls();
        sum();
        book();
        mark();
        markWhenThereAreFour();
        marked();
        DUE.end();
    }

    private static SixWayGas withWallsAlone() {
        SixWayGas gas = new SixWayGas(COLUMNS, ROWS);
        for (int i = 0; i < COLUMNS * ROWS; i++) {
            gas.set(i % COLUMNS, i / COLUMNS, (37 * i + 11) % 128);
        }
        gas.wall(1, 1, true);
        gas.wall(4, 0, true);
        gas.step(3);
        return gas;
    }

    /** A wall in (1, 1), a source in (4, 2), a sink in (5, 0), the body in (2, 2) and (3, 2), nothing in (0, 0). */
    private static SixWayGas busy() {
        SixWayGas gas = withWallsAlone();
        gas.seed(77);
        gas.mass(3);
        gas.source(4, 2, 90);
        gas.sink(5, 0, true);
        gas.body(2, 2, true);
        gas.body(3, 2, true);
        gas.set(0, 0, 0);
        gas.set(0, 3, 127);
        gas.set(1, 3, 127);
        gas.mark(0, 3, 6);
        gas.mark(0, 3, 2);
        return gas;
    }

    private static SixWayGas withFourMarks() {
        SixWayGas gas = busy();
        gas.mark(0, 3, 0);
        gas.mark(0, 3, 5);
        return gas;
    }

    private static SixWayGas withLostMarks() {
        SixWayGas gas = withFourMarks();
        gas.set(0, 3, 127);
        return gas;
    }

    /** The other arguments are good ones, or bad ones whose exception is named later. */
    private static void everyCallForNoCell() {
        for (int[] cell : NO_CELLS) {
            int x = cell[0];
            int y = cell[1];
            String at = " at " + x + ", " + y;
            BUSY.outOfBounds("set" + at, gas -> gas.set(x, y, 5));
            BUSY.outOfBounds("set of 128" + at, gas -> gas.set(x, y, 128));
            BUSY.outOfBounds("get" + at, gas -> gas.get(x, y));
            BUSY.outOfBounds("wall" + at, gas -> gas.wall(x, y, true));
            BUSY.outOfBounds("no wall" + at, gas -> gas.wall(x, y, false));
            BUSY.outOfBounds("source" + at, gas -> gas.source(x, y, 1));
            BUSY.outOfBounds("no source" + at, gas -> gas.source(x, y, 0));
            BUSY.outOfBounds("source of 257" + at, gas -> gas.source(x, y, 257));
            BUSY.outOfBounds("sink" + at, gas -> gas.sink(x, y, true));
            BUSY.outOfBounds("no sink" + at, gas -> gas.sink(x, y, false));
            BUSY.outOfBounds("body" + at, gas -> gas.body(x, y, true));
            BUSY.outOfBounds("no body" + at, gas -> gas.body(x, y, false));
            BUSY.outOfBounds("edge" + at, gas -> gas.edge(x, y));
            BUSY.outOfBounds("sum" + at, gas -> gas.sum(x, y, 1, 1, 0));
            BUSY.outOfBounds("sum of field 3" + at, gas -> gas.sum(x, y, 1, 1, 3));
            BUSY.outOfBounds("mark" + at, gas -> gas.mark(x, y, 6));
            BUSY.outOfBounds("mark of kind 7" + at, gas -> gas.mark(x, y, 7));
            FULL.outOfBounds("mark" + at, gas -> gas.mark(x, y, 6));
        }
    }

    /** Calls with each number beside least .. most, and with the numbers farthest from them. */
    private static void beyond(int least, int most, Consumer<Integer> test) {
        for (int number : new int[] {least - 1, most + 1, Integer.MIN_VALUE, Integer.MAX_VALUE}) {
            test.accept(number);
        }
    }

    private static void set() {
        beyond(0, 127, bits -> {
            BUSY.badArgument("set of " + bits, gas -> gas.set(2, 1, bits));
            BUSY.badArgument("set of " + bits + " where marks are", gas -> gas.set(0, 3, bits));
            BUSY.badArgument("set of " + bits + " in a wall", gas -> gas.set(1, 1, bits));
        });
    }

    private static void rule() {
        beyond(0, 127, bits -> {
            BUSY.badArgument("rule of " + bits, gas -> gas.rule(bits, 0));
            BUSY.badArgument("rule of " + bits + " in sense 1", gas -> gas.rule(bits, 1));
            BUSY.badArgument("rule of " + bits + " in sense 2", gas -> gas.rule(bits, 2));
        });
        beyond(0, 1, sense -> BUSY.badArgument("rule in sense " + sense, gas -> gas.rule(9, sense)));
    }

    private static void wallSinkAndBody() {
        for (boolean on : new boolean[] {true, false}) {
            BUSY.badState("wall where a source is, " + on, gas -> gas.wall(4, 2, on));
            BUSY.badState("wall where a sink is, " + on, gas -> gas.wall(5, 0, on));
            BUSY.badState("wall where the body is, " + on, gas -> gas.wall(3, 2, on));
            BUSY.badState("sink where a wall is, " + on, gas -> gas.sink(1, 1, on));
            BUSY.badState("sink where a source is, " + on, gas -> gas.sink(4, 2, on));
            BUSY.badState("sink where the body is, " + on, gas -> gas.sink(2, 2, on));
            BUSY.badState("body where a wall is, " + on, gas -> gas.body(1, 1, on));
            BUSY.badState("body where a source is, " + on, gas -> gas.body(4, 2, on));
            BUSY.badState("body where a sink is, " + on, gas -> gas.body(5, 0, on));
        }
    }

    private static void source() {
        beyond(0, 256, rate -> {
            BUSY.badArgument("source of " + rate, gas -> gas.source(2, 1, rate));
            BUSY.badArgument("source of " + rate + " where one is", gas -> gas.source(4, 2, rate));
            BUSY.badArgument("source of " + rate + " where a wall is", gas -> gas.source(1, 1, rate));
            BUSY.badArgument("source of " + rate + " where a sink is", gas -> gas.source(5, 0, rate));
            BUSY.badArgument("source of " + rate + " where the body is", gas -> gas.source(2, 2, rate));
        });
        for (int rate : new int[] {0, 1, 256}) {
            BUSY.badState("source of " + rate + " where a wall is", gas -> gas.source(1, 1, rate));
            BUSY.badState("source of " + rate + " where a sink is", gas -> gas.source(5, 0, rate));
            BUSY.badState("source of " + rate + " where the body is", gas -> gas.source(2, 2, rate));
        }
    }

    private static void mass() {
        beyond(1, 10000, m -> BUSY.badArgument("mass of " + m, gas -> gas.mass(m)));
        BUSY.badArgument("mass of -1", gas -> gas.mass(-1));
    }

    private static void account() {
        beyond(0, 2, field -> BUSY.badArgument("account of " + field, gas -> gas.account(field)));
    }

    private static void step() {
        beyond(0, 64, n -> {
            BUSY.badArgument("step of " + n, gas -> gas.step(n));
            WALLS.badArgument("step of " + n, gas -> gas.step(n));
        });
    }

    private static void back() {
        beyond(0, 64, n -> {
            WALLS.badArgument("back of " + n, gas -> gas.back(n));
            BUSY.badArgument("back of " + n, gas -> gas.back(n));
            FRESH.badArgument("back of " + n, gas -> gas.back(n));
        });
    }

    /** "when there is a source, a sink or a cell of the body": each of them alone, in the first and the last cell. */
    private static void backWithOthersThanWalls() {
        for (int[] cell : new int[][] {{0, 0}, {COLUMNS - 1, ROWS - 1}}) {
            int x = cell[0];
            int y = cell[1];
            backIsUnsupported("a source of 1 in " + x + ", " + y, gas -> gas.source(x, y, 1));
            backIsUnsupported("a source of 256 in " + x + ", " + y, gas -> gas.source(x, y, 256));
            backIsUnsupported("a sink in " + x + ", " + y, gas -> gas.sink(x, y, true));
            backIsUnsupported("the body in " + x + ", " + y, gas -> gas.body(x, y, true));
        }
        backIsUnsupported("all", gas -> {
            gas.source(0, 0, 1);
            gas.sink(2, 2, true);
            gas.body(3, 3, true);
        });
    }

    private static void backIsUnsupported(String name, Consumer<SixWayGas> putting) {
        Twins twins = new Twins(DUE, name, COLUMNS, ROWS, () -> {
            SixWayGas gas = withWallsAlone();
            putting.accept(gas);
            return gas;
        });
        for (int n : new int[] {0, 1, 64}) {
            twins.unsupported("back of " + n, gas -> gas.back(n));
        }
        twins.badArgument("back of 65", gas -> gas.back(65));
        twins.badArgument("back of -1", gas -> gas.back(-1));
    }

    private static void sum() {
        int[][] noRectangles = {{0, 0, COLUMNS + 1, 1}, {0, 0, 1, ROWS + 1}, {1, 0, COLUMNS, 1}, {0, 1, 1, ROWS},
            {COLUMNS - 1, ROWS - 1, 2, 1}, {COLUMNS - 1, ROWS - 1, 1, 2}, {0, 0, 0, 1}, {0, 0, 1, 0},
            {2, 2, -1, 1}, {2, 2, 1, -1}, {2, 2, -2, 1}, {5, 3, -5, -3}, {0, 0, 2 * COLUMNS, ROWS},
            {2, 2, Integer.MAX_VALUE, 1}, {2, 2, 1, Integer.MAX_VALUE},
            {2, 2, Integer.MIN_VALUE, 1}, {2, 2, 1, Integer.MIN_VALUE}};
        for (int[] r : noRectangles) {
            for (int field : new int[] {0, 2, 3, -1}) {
                BUSY.outOfBounds("sum of field " + field + " in " + r[0] + ", " + r[1] + ", " + r[2] + ", " + r[3],
                        gas -> gas.sum(r[0], r[1], r[2], r[3], field));
            }
        }
        beyond(0, 2, field -> {
            BUSY.badArgument("sum of field " + field, gas -> gas.sum(0, 0, COLUMNS, ROWS, field));
            BUSY.badArgument("sum of field " + field + " in the last cell",
                    gas -> gas.sum(COLUMNS - 1, ROWS - 1, 1, 1, field));
        });
    }

    private static void book() {
        beyond(0, 3, kind -> BUSY.badArgument("book of kind " + kind, gas -> gas.book(kind, 0)));
        beyond(0, 2, field -> BUSY.badArgument("book of field " + field, gas -> gas.book(3, field)));
        BUSY.badArgument("book of kind 4 and field 3", gas -> gas.book(4, 3));
        // Each of these would be a number of another kind's book, if they were held in one row.
        BUSY.badArgument("book of kind 0 and field 3", gas -> gas.book(0, 3));
        BUSY.badArgument("book of kind 1 and field -1", gas -> gas.book(1, -1));
    }

    private static void mark() {
        beyond(0, 6, kind -> {
            BUSY.badArgument("mark of kind " + kind, gas -> gas.mark(1, 3, kind));
            BUSY.badArgument("mark of kind " + kind + " where nothing is", gas -> gas.mark(0, 0, kind));
            FULL.badArgument("mark of kind " + kind, gas -> gas.mark(1, 3, kind));
        });
        for (int i = 0; i < 7; i++) {
            int kind = i;
            BUSY.noElement("mark where nothing is, kind " + kind, gas -> gas.mark(0, 0, kind));
            FULL.noElement("mark where nothing is, kind " + kind, gas -> gas.mark(0, 0, kind));
            Twins withOthers = new Twins(DUE, "without kind " + kind, COLUMNS, ROWS, () -> {
                SixWayGas gas = busy();
                gas.set(1, 3, 127 - (1 << kind));
                return gas;
            });
            withOthers.noElement("mark where all others are", gas -> gas.mark(1, 3, kind));
        }
        BUSY.badState("mark twice", gas -> gas.mark(0, 3, 6));
        BUSY.badState("mark the other twice", gas -> gas.mark(0, 3, 2));
    }

    private static void markWhenThereAreFour() {
        for (int kind : new int[] {6, 2, 0, 5}) {
            FULL.badState("mark twice, kind " + kind, gas -> gas.mark(0, 3, kind));
        }
        for (int kind : new int[] {1, 3, 4}) {
            FULL.unsupported("a fifth mark, kind " + kind, gas -> gas.mark(0, 3, kind));
        }
        for (int i = 0; i < 7; i++) {
            int kind = i;
            FULL.unsupported("a fifth mark elsewhere, kind " + kind, gas -> gas.mark(1, 3, kind));
            LOST.unsupported("a fifth mark where four were lost, kind " + kind, gas -> gas.mark(0, 3, kind));
        }
        LOST.noElement("mark where nothing is", gas -> gas.mark(0, 0, 0));
    }

    private static void marked() {
        beyond(0, 1, mark -> BUSY.outOfBounds("marked " + mark, gas -> gas.marked(mark)));
        beyond(0, 3, mark -> FULL.outOfBounds("marked " + mark, gas -> gas.marked(mark)));
        beyond(0, 3, mark -> LOST.outOfBounds("marked " + mark, gas -> gas.marked(mark)));
        beyond(0, -1, mark -> FRESH.outOfBounds("marked " + mark, gas -> gas.marked(mark)));
    }
}
