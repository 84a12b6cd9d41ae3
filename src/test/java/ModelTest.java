import java.util.Random;
import java.util.function.ToLongFunction;

/** All promises: random runs of calls give the answers of the plain model, and never change what they refuse. */
public final class ModelTest {
    private static final int RUNS = 600;
    private static final int CALLS = 34;
    private static final Due DUE = new Due();

    // How often the runs came where they should: a run that moves no body would test little.
    private static int moves;
    private static int followed;
    private static int lost;

    private final Random random;
    private final SixWayGas gas;
    private final PlainGas plain;
    private final String name;
    private final boolean onlyWalls;
    private String call;

    private ModelTest(int run) {
        random = new Random(run);
        int w = random.nextInt(10) == 0 ? random.nextInt(40) - 10 : 4 + 2 * random.nextInt(run % 5 == 0 ? 7 : 3);
        int h = random.nextInt(10) == 0 ? random.nextInt(40) - 10 : 4 + 2 * random.nextInt(run % 5 == 0 ? 7 : 3);
        gas = new SixWayGas(w, h);
        plain = new PlainGas(w, h);
        name = "run " + run + " on " + w + ", " + h + ": ";
        onlyWalls = run % 3 == 0;
    }

    public static void main(String[] args) {
        for (int run = 0; run < RUNS; run++) {
            new ModelTest(run).goThrough();
        }
        DUE.yes("bodies moved often", moves > RUNS);
        DUE.yes("marks were followed", followed > RUNS);
        DUE.yes("marks were lost", lost > RUNS / 10);
        DUE.end();
    }

    private void goThrough() {
        for (int i = 0; i < 12; i++) {
            placeSomething();
        }
        int light = 1 + random.nextInt(5);
        both("mass " + light, g -> done(() -> g.mass(light)), p -> done(() -> p.mass(light)));
        for (int i = 0; i < CALLS; i++) {
            callSomething();
            compareState();
        }
        compareCells();
        moves += plain.account(2);
        countMarks();
    }

    private static long done(Runnable run) {
        run.run();
        return 0;
    }

    private static long flag(boolean answer) {
        return answer ? 1 : 0;
    }

    private void both(String what, ToLongFunction<SixWayGas> ofGas, ToLongFunction<PlainGas> ofPlain) {
        call = what;
        DUE.text(name + what, answer(ofGas, gas), answer(ofPlain, plain));
    }

    private static <T> String answer(ToLongFunction<T> function, T of) {
        try {
            return Long.toString(function.applyAsLong(of));
        } catch (RuntimeException e) {
            return e.getClass().getSimpleName();
        }
    }

    private int column() {
        return random.nextInt(40) == 0 ? random.nextInt(40) - 20 : random.nextInt(plain.columns());
    }

    private int row() {
        return random.nextInt(40) == 0 ? random.nextInt(40) - 20 : random.nextInt(plain.rows());
    }

    /** A number from least to most, seldom one beside or far from them. */
    private int number(int least, int most) {
        switch (random.nextInt(40)) {
            case 0:
                return least - 1;
            case 1:
                return most + 1;
            case 2:
                return random.nextInt();
            default:
                return least + random.nextInt(most - least + 1);
        }
    }

    private void placeSomething() {
        if (random.nextInt(2) == 0) {
            setBits();
        } else if (onlyWalls) {
            changeEdge(0, random.nextInt(4) != 0);
        } else {
            changeEdge(random.nextInt(3) == 0 ? random.nextInt(3) : 3, random.nextInt(6) != 0);
        }
    }

    private void setBits() {
        int x = column();
        int y = row();
        int bits = number(0, 127);
        both("set " + x + ", " + y + ", " + bits,
                g -> done(() -> g.set(x, y, bits)), p -> done(() -> p.set(x, y, bits)));
    }

    private void changeEdge(int sort, boolean on) {
        int x = column();
        int y = row();
        int rate = on ? number(1, 256) : 0;
        String at = " " + x + ", " + y + ", " + on;
        switch (sort) {
            case 0:
                both("wall" + at, g -> flag(g.wall(x, y, on)), p -> flag(p.wall(x, y, on)));
                break;
            case 1:
                both("source" + at + " " + rate,
                        g -> done(() -> g.source(x, y, rate)), p -> done(() -> p.source(x, y, rate)));
                break;
            case 2:
                both("sink" + at, g -> flag(g.sink(x, y, on)), p -> flag(p.sink(x, y, on)));
                break;
            default:
                both("body" + at, g -> flag(g.body(x, y, on)), p -> flag(p.body(x, y, on)));
                break;
        }
    }

    private void callSomething() {
        int sort = random.nextInt(20);
        if (sort < 6) {
            int n = random.nextInt(4) == 0 ? number(0, 12) : 1;
            both("step " + n, g -> g.step(n), p -> p.step(n));
        } else if (sort < 8) {
            int n = random.nextInt(4) == 0 ? number(0, 12) : 1;
            both("back " + n, g -> g.back(n), p -> p.back(n));
        } else if (sort < 10) {
            placeSomething();
        } else if (sort < 13) {
            markSomething();
        } else if (sort == 13) {
            int s = random.nextInt();
            both("seed " + s, g -> done(() -> g.seed(s)), p -> done(() -> p.seed(s)));
        } else if (sort == 14) {
            int m = random.nextInt(2) == 0 ? number(1, 10000) : number(1, 9);
            both("mass " + m, g -> done(() -> g.mass(m)), p -> done(() -> p.mass(m)));
        } else if (sort == 15) {
            int bits = number(0, 127);
            int sense = number(0, 1);
            both("rule " + bits + ", " + sense, g -> g.rule(bits, sense), p -> p.rule(bits, sense));
        } else {
            sumSomething();
        }
    }

    private void markSomething() {
        int x = column();
        int y = row();
        int kind = number(0, 6);
        for (int tries = 0; tries < 30 && !answer(p -> p.get(x, y) >> kind & 1, plain).equals("1"); tries++) {
            int newX = random.nextInt(plain.columns());
            int newY = random.nextInt(plain.rows());
            int bits = plain.get(newX, newY);
            if (bits != 0) {
                int newKind = Integer.numberOfTrailingZeros(bits);
                both("mark " + newX + ", " + newY + ", " + newKind,
                        g -> g.mark(newX, newY, newKind), p -> p.mark(newX, newY, newKind));
                return;
            }
        }
        both("mark " + x + ", " + y + ", " + kind, g -> g.mark(x, y, kind), p -> p.mark(x, y, kind));
    }

    private void sumSomething() {
        int x = column();
        int y = row();
        int w = number(1, Math.max(1, plain.columns() - x));
        int h = number(1, Math.max(1, plain.rows() - y));
        int field = number(0, 2);
        both("sum " + x + ", " + y + ", " + w + ", " + h + ", " + field,
                g -> g.sum(x, y, w, h, field), p -> p.sum(x, y, w, h, field));
    }

    /** Nine calls, so that a run stays within the 512 of the document. */
    private void compareState() {
        String behind = " behind " + call;
        both("check" + behind, SixWayGas::check, PlainGas::check);
        for (int i = 0; i < 3; i++) {
            int field = i;
            both("account " + field + behind, g -> g.account(field), p -> p.account(field));
        }
        int kind = number(0, 3);
        int field = number(0, 2);
        both("book " + kind + ", " + field + behind, g -> g.book(kind, field), p -> p.book(kind, field));
        for (int i = 0; i < 4; i++) {
            int mark = i;
            both("marked " + mark + behind, g -> g.marked(mark), p -> p.marked(mark));
        }
    }

    private void compareCells() {
        both("time", g -> g.step(0), p -> p.step(0));
        for (int i = 0; i < 48; i++) {
            int x = column();
            int y = row();
            both("get " + x + ", " + y, g -> g.get(x, y), p -> p.get(x, y));
            both("edge " + x + ", " + y, g -> g.edge(x, y), p -> p.edge(x, y));
        }
    }

    private void countMarks() {
        for (int i = 0; i < 4; i++) {
            int mark = i;
            String where = answer(p -> p.marked(mark), plain);
            if (where.equals("-1")) {
                lost++;
            } else if (!where.startsWith("I")) {
                followed++;
            }
        }
    }
}
