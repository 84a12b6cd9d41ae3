/** Promises 18 (mark) and 19 (marked). */
public final class MarksTest {
    private static final Due DUE = new Due();

    public static void main(String[] args) {
        numbers();
        refusedInOrder();
        lostOnesCount();
        firstAndLastPlaces();
        severalInOneCell();
        markedWhereItIsNow();
        lostAndMarkedAnew();
        lostWhateverHappens();
        flightAndWalls();
        everyKindInWalls();
        inSources();
        meetings();
        back();
        set();
        setWithEveryBits();
        sinks();
        everyKindInSinks();
        sinkNoMore();
        exchange();
        DUE.end();
    }

    private static int place(int x, int y, int kind) {
        return 128 * y + 8 * x + kind;
    }

    private static void numbers() {
        SixWayGas gas = new SixWayGas(16, 16);
        gas.set(15, 15, 127);
        gas.set(0, 0, 1);
        DUE.equal("first", gas.mark(15, 15, 6), 0);
        DUE.equal("second", gas.mark(0, 0, 0), 1);
        DUE.equal("third", gas.mark(15, 15, 0), 2);
        DUE.equal("fourth", gas.mark(15, 15, 5), 3);
        DUE.equal("marked 0", gas.marked(0), place(15, 15, 6));
        DUE.equal("marked 1", gas.marked(1), 0);
        DUE.equal("marked 2", gas.marked(2), place(15, 15, 0));
        DUE.equal("marked 3", gas.marked(3), place(15, 15, 5));
        DUE.outOfBounds("marked 4", () -> gas.marked(4));
    }

    private static void refusedInOrder() {
        SixWayGas gas = new SixWayGas(8, 8);
        gas.set(1, 1, 127);
        for (int wrong : new int[] {-1, 0, Integer.MIN_VALUE, Integer.MAX_VALUE}) {
            DUE.outOfBounds("marked " + wrong, () -> gas.marked(wrong));
        }
        for (int kind : new int[] {-1, 7, 32, 33, Integer.MIN_VALUE, Integer.MAX_VALUE}) {
            DUE.badArgument("mark of kind " + kind, () -> gas.mark(1, 1, kind));
            DUE.outOfBounds("mark outside of kind " + kind, () -> gas.mark(8, 1, kind));
        }
        noElement(gas);
        gas.mark(1, 1, 2);
        DUE.badState("mark twice", () -> gas.mark(1, 1, 2));
        DUE.outOfBounds("marked 1 when there is one", () -> gas.marked(1));
        for (int kind = 3; kind < 6; kind++) {
            DUE.equal("marks behind refused ones", gas.mark(1, 1, kind), kind - 2);
        }
        DUE.outOfBounds("five: outside", () -> gas.mark(1, 8, 0));
        DUE.badArgument("five: kind", () -> gas.mark(1, 1, 7));
        noElement(gas);
        DUE.badState("five: marked already", () -> gas.mark(1, 1, 5));
        DUE.thrown("five", "UnsupportedOperationException", () -> gas.mark(1, 1, 6));
        DUE.outOfBounds("marked 4 when there are four", () -> gas.marked(4));
    }

    private static void noElement(SixWayGas gas) {
        for (int kind = 0; kind < 7; kind++) {
            int asked = kind;
            DUE.thrown("mark of nothing, kind " + kind, "NoSuchElementException", () -> gas.mark(2, 2, asked));
        }
    }

    private static void lostOnesCount() {
        SixWayGas gas = new SixWayGas(8, 8);
        for (int i = 0; i < 4; i++) {
            gas.set(3, 3, 1);
            DUE.equal("mark of a new particle", gas.mark(3, 3, 0), i);
        }
        gas.set(3, 3, 1);
        for (int i = 0; i < 4; i++) {
            DUE.equal("lost", gas.marked(i), SixWayGas.NONE);
        }
        DUE.thrown("four lost ones", "UnsupportedOperationException", () -> gas.mark(3, 3, 0));
        gas.step(9);
        for (int i = 0; i < 4; i++) {
            DUE.equal("still lost", gas.marked(i), SixWayGas.NONE);
        }
    }

    /** "128 * y + 8 * x + its kind": 0 is the least, 2046 the greatest. */
    private static void firstAndLastPlaces() {
        SixWayGas gas = new SixWayGas(16, 16);
        gas.set(0, 0, 127);
        gas.set(15, 15, 127);
        gas.mark(0, 0, 0);
        gas.mark(15, 15, 6);
        gas.mark(0, 0, 6);
        gas.mark(15, 15, 0);
        DUE.equal("the first place", gas.marked(0), 0);
        DUE.equal("the last place", gas.marked(1), 2046);
        DUE.equal("the last kind of the first cell", gas.marked(2), 6);
        DUE.equal("the first kind of the last cell", gas.marked(3), 2040);
    }

    /** The marks on a full cell part, and come together again when the step is taken back. */
    private static void severalInOneCell() {
        SixWayGas gas = new SixWayGas(4, 4);
        gas.set(1, 1, 127);
        for (int kind = 0; kind < 4; kind++) {
            DUE.equal("mark of kind " + kind, gas.mark(1, 1, kind), kind);
        }
        gas.step(1);
        DUE.equal("kind 0", gas.marked(0), place(2, 1, 0));
        DUE.equal("kind 1", gas.marked(1), place(2, 0, 1));
        DUE.equal("kind 2", gas.marked(2), place(1, 0, 2));
        DUE.equal("kind 3", gas.marked(3), place(0, 1, 3));
        gas.back(1);
        for (int kind = 0; kind < 4; kind++) {
            DUE.equal("kind " + kind + " again", gas.marked(kind), place(1, 1, kind));
        }
    }

    /** "IllegalStateException when it has a mark already": where it is now, not where it was. */
    private static void markedWhereItIsNow() {
        SixWayGas gas = new SixWayGas(8, 8);
        gas.set(3, 4, 1);
        gas.mark(3, 4, 0);
        gas.step(1);
        DUE.badState("where it is now", () -> gas.mark(4, 4, 0));
        DUE.thrown("where it was", "NoSuchElementException", () -> gas.mark(3, 4, 0));
        gas.set(3, 4, 1);
        DUE.equal("another where it was", gas.mark(3, 4, 0), 1);
        gas.back(1);
        DUE.badState("where it is again", () -> gas.mark(3, 4, 0));
        DUE.badState("where the other came from", () -> gas.mark(2, 4, 0));
    }

    /** A lost mark stays lost though a new particle is in the place, and that one can get a mark of its own. */
    private static void lostAndMarkedAnew() {
        SixWayGas gas = new SixWayGas(8, 8);
        gas.set(0, 0, 127);
        for (int mark = 0; mark < 3; mark++) {
            DUE.equal("mark of kind 0", gas.mark(0, 0, 0), mark);
            gas.set(0, 0, 127);
        }
        DUE.equal("the last one", gas.mark(0, 0, 0), 3);
        DUE.equal("lost", gas.marked(2), SixWayGas.NONE);
        DUE.equal("not lost", gas.marked(3), 0);
        DUE.badState("marked, and four", () -> gas.mark(0, 0, 0));
        DUE.thrown("not marked, and four", "UnsupportedOperationException", () -> gas.mark(0, 0, 1));
        gas.step(1);
        DUE.equal("lost a step later", gas.marked(2), SixWayGas.NONE);
        DUE.equal("not lost a step later", gas.marked(3), place(1, 0, 0));
        gas.back(2);
        DUE.equal("lost a step before", gas.marked(2), SixWayGas.NONE);
        DUE.equal("not lost a step before", gas.marked(3), place(7, 0, 0));
    }

    /** Whatever happens in whichever cell, a mark that is lost comes to no particle again. */
    private static void lostWhateverHappens() {
        for (int i = 0; i < 16; i++) {
            int x = i % 4;
            int y = i / 4;
            meetsWithALostMark(x, y);
            bouncesWithALostMark(x, y);
            changesPlacesWithALostMark(x, y);
        }
    }

    /** A mark that was lost in (1, 1), and a grid without particles. */
    private static SixWayGas withALostMark() {
        SixWayGas gas = new SixWayGas(4, 4);
        gas.set(1, 1, 127);
        gas.mark(1, 1, 3);
        gas.set(1, 1, 0);
        return gas;
    }

    private static void meetsWithALostMark(int x, int y) {
        for (int bits : new int[] {9, 21, 65, 34, 127}) {
            SixWayGas gas = withALostMark();
            gas.set(x, y, bits);
            gas.step(1);
            DUE.equal("lost when " + bits + " meet in " + x + ", " + y, gas.marked(0), SixWayGas.NONE);
            gas.back(2);
            DUE.equal("lost when they are taken back", gas.marked(0), SixWayGas.NONE);
        }
    }

    private static void bouncesWithALostMark(int x, int y) {
        SixWayGas gas = withALostMark();
        gas.wall(x, y, true);
        gas.set(x, y, 127);
        gas.step(2);
        DUE.equal("lost when a wall in " + x + ", " + y + " is hit", gas.marked(0), SixWayGas.NONE);
        gas.wall(x, y, false);
        gas.source(x, y, 256);
        gas.step(1);
        DUE.equal("lost when a source gives", gas.marked(0), SixWayGas.NONE);
        gas.source(x, y, 0);
        gas.sink(x, y, true);
        gas.step(1);
        DUE.equal("lost when a sink takes", gas.marked(0), SixWayGas.NONE);
    }

    private static void changesPlacesWithALostMark(int x, int y) {
        SixWayGas gas = withALostMark();
        gas.mass(2);
        gas.body(x, y, true);
        gas.set((x + 3) % 4, y, 1);
        gas.set((x + 1) % 4, y, 64);
        gas.step(1);
        DUE.equal("the body moved from " + x + ", " + y, gas.account(2), 1);
        DUE.equal("lost when it moves", gas.marked(0), SixWayGas.NONE);
        gas.set(x, y, 64);
        gas.set((x + 2) % 4, y, 8);
        gas.step(1);
        DUE.equal("the body moved to " + x + ", " + y, gas.account(2), 2);
        DUE.equal("lost when it moves back", gas.marked(0), SixWayGas.NONE);
    }

    private static void everyKindInWalls() {
        for (int kind = 0; kind < 7; kind++) {
            SixWayGas gas = new SixWayGas(8, 8);
            gas.wall(4, 4, true);
            Hex.arrive(gas, 4, 4, 127, 8, 8);
            int[] from = kind == 6 ? new int[] {4, 4} : Hex.neighbour(4, 4, kind + 3, 8, 8);
            gas.mark(from[0], from[1], kind);
            gas.step(1);
            int turned = kind == 6 ? 6 : (kind + 3) % 6;
            DUE.equal("kind " + kind + " in a wall", gas.marked(0), place(4, 4, turned));
            gas.back(1);
            DUE.equal("kind " + kind + " back from a wall", gas.marked(0), place(from[0], from[1], kind));
        }
    }

    /** What a source gives has no mark, and what was there keeps its own. */
    private static void inSources() {
        SixWayGas gas = new SixWayGas(8, 8);
        gas.source(4, 4, 256);
        gas.set(3, 4, 1);
        gas.set(4, 4, 64);
        gas.mark(3, 4, 0);
        gas.mark(4, 4, 6);
        gas.step(1);
        DUE.equal("flown into a source", gas.marked(0), place(4, 4, 0));
        DUE.equal("rests in a source", gas.marked(1), place(4, 4, 6));
        DUE.equal("given by a source", gas.mark(4, 4, 1), 2);
        DUE.badState("not given by it", () -> gas.mark(4, 4, 0));
    }

    private static void flightAndWalls() {
        SixWayGas gas = new SixWayGas(8, 8);
        gas.set(7, 7, 32);
        gas.set(3, 3, 64);
        gas.set(2, 5, 1);
        gas.wall(3, 5, true);
        gas.mark(7, 7, 5);
        gas.mark(3, 3, 6);
        gas.mark(2, 5, 0);
        gas.step(1);
        DUE.equal("flown round the corner", gas.marked(0), place(0, 0, 5));
        DUE.equal("rests", gas.marked(1), place(3, 3, 6));
        DUE.equal("bounced", gas.marked(2), place(3, 5, 3));
        gas.step(1);
        DUE.equal("flown off", gas.marked(2), place(2, 5, 3));
        gas.wall(3, 3, true);
        gas.step(1);
        DUE.equal("rests in a wall", gas.marked(1), place(3, 3, 6));
    }

    private static void meetings() {
        // 65 (kinds 0, 6) becomes 34 (1, 5): 0 -> 1, 6 -> 5.
        SixWayGas gas = new SixWayGas(8, 8);
        gas.set(4, 4, 65);
        gas.mark(4, 4, 6);
        gas.mark(4, 4, 0);
        gas.step(1);
        DUE.equal("6 became 5", gas.marked(0), place(4, 5, 5));
        DUE.equal("0 became 1", gas.marked(1), place(4, 3, 1));
        // 36 (2, 5) becomes 9 (0, 3) in sense 0, so that 2 -> 0 and 5 -> 3.
        SixWayGas turned = new SixWayGas(8, 8);
        turned.set(4, 4, 36);
        turned.set(2, 2, 3);
        turned.mark(4, 4, 5);
        turned.mark(4, 4, 2);
        turned.mark(2, 2, 1);
        turned.step(1);
        DUE.equal("5 became 3", turned.marked(0), place(3, 4, 3));
        DUE.equal("2 became 0", turned.marked(1), place(5, 4, 0));
        DUE.equal("no change", turned.marked(2), place(2, 1, 1));
    }

    private static void back() {
        SixWayGas gas = new SixWayGas(6, 6);
        int[] bits = {65, 36, 21, 42, 34, 9, 54, 127, 100, 3, 80};
        for (int i = 0; i < 36; i++) {
            gas.set(i % 6, i / 6, bits[i % bits.length]);
        }
        gas.wall(2, 3, true);
        gas.wall(5, 0, true);
        int[] places = {place(0, 0, 6), place(1, 0, 5), place(4, 0, 1), place(2, 0, 4)};
        gas.mark(0, 0, 6);
        gas.mark(1, 0, 5);
        gas.mark(4, 0, 1);
        gas.mark(2, 0, 4);
        for (int steps = 1; steps < 40; steps++) {
            gas.step(steps);
            gas.back(steps);
            for (int i = 0; i < 4; i++) {
                DUE.equal("mark " + i + " after " + steps + " there and back", gas.marked(i), places[i]);
            }
        }
    }

    private static void set() {
        SixWayGas gas = new SixWayGas(8, 8);
        gas.set(1, 1, 3);
        gas.set(2, 1, 3);
        gas.mark(1, 1, 0);
        gas.mark(2, 1, 1);
        DUE.badArgument("set refused", () -> gas.set(1, 1, 128));
        DUE.equal("not lost by a refused set", gas.marked(0), place(1, 1, 0));
        gas.set(1, 1, 3);
        DUE.equal("lost by the same bits", gas.marked(0), SixWayGas.NONE);
        DUE.equal("the other is not", gas.marked(1), place(2, 1, 1));
        DUE.equal("can be marked anew", gas.mark(1, 1, 0), 2);
        gas.set(2, 1, 0);
        DUE.equal("lost by no bits", gas.marked(1), SixWayGas.NONE);
    }

    /** "for set: the cell has other or the same bits": all of them lose all marks there. */
    private static void setWithEveryBits() {
        for (int bits = 0; bits <= 127; bits++) {
            SixWayGas gas = new SixWayGas(4, 4);
            gas.set(3, 3, 127);
            gas.set(2, 3, 127);
            gas.mark(3, 3, 0);
            gas.mark(3, 3, 6);
            gas.mark(2, 3, 6);
            gas.set(3, 3, bits);
            DUE.equal("first behind set " + bits, gas.marked(0), SixWayGas.NONE);
            DUE.equal("second behind set " + bits, gas.marked(1), SixWayGas.NONE);
            DUE.equal("the other cell's behind set " + bits, gas.marked(2), place(2, 3, 6));
        }
    }

    private static void everyKindInSinks() {
        for (int kind = 0; kind < 7; kind++) {
            SixWayGas gas = new SixWayGas(8, 8);
            gas.sink(4, 4, true);
            Hex.arrive(gas, 4, 4, 127, 8, 8);
            int[] from = kind == 6 ? new int[] {4, 4} : Hex.neighbour(4, 4, kind + 3, 8, 8);
            gas.mark(from[0], from[1], kind);
            gas.set(0, 0, 64);
            gas.mark(0, 0, 6);
            gas.step(1);
            DUE.equal("kind " + kind + " in a sink", gas.marked(0), SixWayGas.NONE);
            DUE.equal("not in a sink", gas.marked(1), place(0, 0, 6));
        }
    }

    private static void sinkNoMore() {
        SixWayGas gas = new SixWayGas(8, 8);
        gas.sink(4, 4, true);
        gas.set(4, 4, 64);
        gas.mark(4, 4, 6);
        DUE.equal("a sink takes nothing before a step", gas.marked(0), place(4, 4, 6));
        gas.step(0);
        DUE.equal("nor by no steps", gas.marked(0), place(4, 4, 6));
        gas.sink(4, 4, false);
        gas.step(2);
        DUE.equal("nor when it is none any more", gas.marked(0), place(4, 4, 6));
    }

    private static void sinks() {
        SixWayGas gas = new SixWayGas(8, 8);
        gas.sink(4, 4, true);
        gas.set(3, 4, 1);
        gas.set(4, 4, 64 | 1);
        gas.mark(3, 4, 0);
        gas.mark(4, 4, 6);
        gas.mark(4, 4, 0);
        gas.step(1);
        DUE.equal("flown into the sink", gas.marked(0), SixWayGas.NONE);
        DUE.equal("met and flew off", gas.marked(1), place(4, 5, 5));
        DUE.equal("met and flew off, too", gas.marked(2), place(4, 3, 1));
        gas.set(4, 4, 64);
        gas.mark(4, 4, 6);
        gas.step(1);
        DUE.equal("rested in the sink", gas.marked(3), SixWayGas.NONE);
    }

    private static void exchange() {
        SixWayGas gas = new SixWayGas(8, 8);
        gas.mass(2);
        gas.body(4, 4, true);
        gas.set(3, 4, 1);
        gas.set(4, 4, 64);
        gas.set(5, 4, 64);
        gas.mark(3, 4, 0);
        gas.mark(4, 4, 6);
        gas.mark(5, 4, 6);
        gas.step(1);
        DUE.equal("the body moved", gas.account(2), 1);
        DUE.equal("bounced and changed places", gas.marked(0), place(5, 4, 3));
        DUE.equal("rested in the body", gas.marked(1), place(5, 4, 6));
        DUE.equal("rested before the body", gas.marked(2), place(4, 4, 6));
    }
}
