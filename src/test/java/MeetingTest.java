/**
 * "MEETING: the bits of each cell that is neither wall nor of the body become what the rule says,
 * the sense being the lowest bit of x + y + time", and a step taken back undoes it; the k-th mark
 * before is the k-th mark after, in order of the kinds, "the other way round when a step is taken
 * back". Here with all bits, in both senses, at times above and below 0.
 */
public final class MeetingTest {
    private static final int SIZE = 8;
    private static final Due DUE = new Due();

    public static void main(String[] args) {
        for (int bits = 0; bits <= 127; bits++) {
            for (int time = -2; time <= 1; time++) {
                for (int i = 0; i < 4; i++) {
                    meets(3 + i % 2, 3 + i / 2, time, bits);
                    unmeets(3 + i % 2, 3 + i / 2, time, bits);
                }
            }
            sinksAndSourcesMeet(bits);
            wallsAndBodyDoNotMeet(bits);
            wallsDoNotMeetBack(bits);
        }
        DUE.end();
    }

    private static SixWayGas at(int time) {
        SixWayGas gas = new SixWayGas(SIZE, SIZE);
        if (time < 0) {
            gas.back(-time);
        } else {
            gas.step(time);
        }
        return gas;
    }

    private static int sense(int x, int y, int time) {
        return Math.floorMod(x + y + time, 2);
    }

    /** The bits are where flight brings them from (x, y), and nothing else is there. */
    private static void areFlownFrom(SixWayGas gas, String name, int x, int y, int bits) {
        for (int kind = 0; kind < 6; kind++) {
            int[] to = Hex.neighbour(x, y, kind, SIZE, SIZE);
            DUE.equal(name + ", kind " + kind, gas.get(to[0], to[1]), bits & 1 << kind);
        }
        DUE.equal(name + ", resting", gas.get(x, y), bits & 64);
    }

    private static void meets(int x, int y, int time, int bits) {
        SixWayGas gas = at(time);
        int after = gas.rule(bits, sense(x, y, time));
        gas.set(x, y, bits);
        int marks = 0;
        for (int kind = 0; kind < 7; kind++) {
            if (Hex.has(bits, kind) && marks < 4) {
                gas.mark(x, y, kind);
                marks++;
            }
        }
        gas.step(1);
        String name = "bits " + bits + " in " + x + ", " + y + " at " + time;
        areFlownFrom(gas, name, x, y, after);
        for (int mark = 0; mark < marks; mark++) {
            DUE.equal(name + ", mark " + mark, gas.marked(mark), flownPlace(x, y, kindAt(after, mark)));
        }
    }

    /** The bits lie where flight brought them at this time from (x, y): what were they there? */
    private static void unmeets(int x, int y, int time, int bits) {
        SixWayGas gas = at(time);
        gas.set(x, y, bits & 64);
        for (int kind = 0; kind < 6; kind++) {
            int[] to = Hex.neighbour(x, y, kind, SIZE, SIZE);
            gas.set(to[0], to[1], bits & 1 << kind);
        }
        int number = Integer.bitCount(bits);
        int marks = Math.min(number, 4);
        for (int mark = 0; mark < marks; mark++) {
            markFlown(gas, x, y, kindAt(bits, number - 1 - mark));
        }
        gas.back(1);
        int before = gas.get(x, y);
        String name = "bits " + bits + " from " + x + ", " + y + " at " + time;
        DUE.equal(name + ", what the rule makes of them", gas.rule(before, sense(x, y, time - 1)), bits);
        DUE.equal(name + ", number", gas.sum(0, 0, SIZE, SIZE, 0), number);
        for (int mark = 0; mark < marks; mark++) {
            int kind = kindAt(before, number - 1 - mark);
            DUE.equal(name + ", mark " + mark, gas.marked(mark), Hex.place(x, y, kind));
        }
    }

    private static int kindAt(int bits, int k) {
        int seen = 0;
        for (int kind = 0; kind < 7; kind++) {
            if (Hex.has(bits, kind)) {
                if (seen == k) {
                    return kind;
                }
                seen++;
            }
        }
        throw new AssertionError("there is no particle " + k + " in " + bits);
    }

    private static int[] flown(int x, int y, int kind) {
        return kind == 6 ? new int[] {x, y} : Hex.neighbour(x, y, kind, SIZE, SIZE);
    }

    private static int flownPlace(int x, int y, int kind) {
        int[] to = flown(x, y, kind);
        return Hex.place(to[0], to[1], kind);
    }

    private static void markFlown(SixWayGas gas, int x, int y, int kind) {
        int[] to = flown(x, y, kind);
        gas.mark(to[0], to[1], kind);
    }

    private static void sinksAndSourcesMeet(int bits) {
        SixWayGas drained = new SixWayGas(SIZE, SIZE);
        drained.sink(4, 4, true);
        drained.set(4, 4, bits);
        drained.step(1);
        areFlownFrom(drained, "bits " + bits + " in a sink", 4, 4, drained.rule(bits, 0) & 63);
        SixWayGas fed = new SixWayGas(SIZE, SIZE);
        // With this seed a source of rate 1 gives nothing in the first step.
        fed.seed(1);
        fed.source(4, 4, 1);
        fed.set(4, 4, bits);
        fed.step(1);
        areFlownFrom(fed, "bits " + bits + " in a source", 4, 4, fed.rule(bits, 0));
    }

    private static void wallsAndBodyDoNotMeet(int bits) {
        SixWayGas walled = new SixWayGas(SIZE, SIZE);
        walled.wall(4, 4, true);
        walled.set(4, 4, bits);
        walled.step(1);
        areFlownFrom(walled, "bits " + bits + " in a wall", 4, 4, bits);
        SixWayGas pushed = new SixWayGas(SIZE, SIZE);
        pushed.body(4, 4, true);
        pushed.set(4, 4, bits);
        pushed.step(1);
        areFlownFrom(pushed, "bits " + bits + " in the body", 4, 4, bits);
    }

    private static void wallsDoNotMeetBack(int bits) {
        SixWayGas gas = new SixWayGas(SIZE, SIZE);
        gas.wall(4, 4, true);
        gas.set(4, 4, bits & 64);
        for (int kind = 0; kind < 6; kind++) {
            int[] to = Hex.neighbour(4, 4, kind, SIZE, SIZE);
            gas.set(to[0], to[1], bits & 1 << kind);
        }
        gas.back(1);
        DUE.equal("bits " + bits + " back in a wall", gas.get(4, 4), bits);
        DUE.equal("the walls' book behind bits " + bits, gas.book(0, 1), 0);
    }
}
