import java.util.LinkedHashMap;
import java.util.Map;
import java.util.function.Consumer;
import java.util.function.IntSupplier;
import java.util.function.Supplier;

/**
 * Pairs of gases made by the same calls. A call that one of them refuses must leave it like the
 * other: in all that can be asked at once, and, for what is hidden (the seed, the rates, the mass),
 * in what the next steps make of it.
 */
final class Twins {
    private final Due due;
    private final String name;
    private final Supplier<SixWayGas> maker;
    private final int columns;
    private final int rows;

    /** The grid is to be small: an object is good for 512 calls alone. */
    Twins(Due due, String name, int columns, int rows, Supplier<SixWayGas> maker) {
        this.due = due;
        this.name = name;
        this.columns = columns;
        this.rows = rows;
        this.maker = maker;
    }

    void outOfBounds(String what, Consumer<SixWayGas> call) {
        refuse(what, "IndexOutOfBoundsException", call);
    }

    void badArgument(String what, Consumer<SixWayGas> call) {
        refuse(what, "IllegalArgumentException", call);
    }

    void badState(String what, Consumer<SixWayGas> call) {
        refuse(what, "IllegalStateException", call);
    }

    void noElement(String what, Consumer<SixWayGas> call) {
        refuse(what, "NoSuchElementException", call);
    }

    void unsupported(String what, Consumer<SixWayGas> call) {
        refuse(what, "UnsupportedOperationException", call);
    }

    private void refuse(String what, String exception, Consumer<SixWayGas> call) {
        SixWayGas asked = maker.get();
        SixWayGas other = maker.get();
        String title = name + ": " + what;
        due.thrown(title, exception, () -> call.accept(asked));
        compare(title + ", behind it", asked, other);
        asked.step(1);
        other.step(1);
        compare(title + ", a step later", asked, other);
        asked.step(4);
        other.step(4);
        compare(title + ", five steps later", asked, other);
    }

    private void compare(String title, SixWayGas asked, SixWayGas other) {
        Map<String, String> want = state(other);
        state(asked).forEach((question, got) -> due.text(title + ", " + question, got, want.get(question)));
    }

    private Map<String, String> state(SixWayGas gas) {
        Map<String, String> state = new LinkedHashMap<>();
        state.put("time", answer(() -> gas.step(0)));
        state.put("check", answer(gas::check));
        for (int i = 0; i < columns * rows; i++) {
            int x = i % columns;
            int y = i / columns;
            state.put("get " + x + ", " + y, answer(() -> gas.get(x, y)));
            state.put("edge " + x + ", " + y, answer(() -> gas.edge(x, y)));
        }
        for (int i = 0; i < 12; i++) {
            int kind = i / 3;
            int field = i % 3;
            state.put("book " + kind + ", " + field, answer(() -> gas.book(kind, field)));
        }
        for (int i = 0; i < 3; i++) {
            int field = i;
            state.put("account " + field, answer(() -> gas.account(field)));
        }
        for (int i = 0; i < 5; i++) {
            int mark = i;
            state.put("marked " + mark, answer(() -> gas.marked(mark)));
        }
        return state;
    }

    private static String answer(IntSupplier question) {
        try {
            return Integer.toString(question.getAsInt());
        } catch (IndexOutOfBoundsException e) {
            return "none";
        }
    }
}
