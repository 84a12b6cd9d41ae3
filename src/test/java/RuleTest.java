/** Promise 4 (rule). */
public final class RuleTest {
    private static final int[] FIRST = {1, 0, -1, -1, 0, 1, 0};
    private static final int[] SECOND = {0, 1, 1, 0, -1, -1, 0};
    private static final Due DUE = new Due();

    public static void main(String[] args) {
        headOn();
        threeway();
        resting();
        justBesideTheCases();
        allOtherBitsStay();
        everyBits();
        refused();
        DUE.end();
    }

    /** A new object each time, as one is good for 512 calls alone. */
    private static int rule(int bits, int sense) {
        return new SixWayGas(4, 4).rule(bits, sense);
    }

    private static void headOn() {
        int[][] becomes = {{9, 18, 36}, {18, 36, 9}, {36, 9, 18}, {54, 45, 27}, {45, 27, 54}, {27, 54, 45}};
        for (int[] row : becomes) {
            DUE.equal("rule " + row[0] + ", 0", rule(row[0], 0), row[1]);
            DUE.equal("rule " + row[0] + ", 1", rule(row[0], 1), row[2]);
            DUE.equal("rule " + row[0] + " and 6, 0", rule(row[0] + 64, 0), row[1] + 64);
            DUE.equal("rule " + row[0] + " and 6, 1", rule(row[0] + 64, 1), row[2] + 64);
        }
    }

    private static void threeway() {
        for (int sense = 0; sense < 2; sense++) {
            DUE.equal("rule 21", rule(21, sense), 42);
            DUE.equal("rule 42", rule(42, sense), 21);
            DUE.equal("rule 85", rule(85, sense), 106);
            DUE.equal("rule 106", rule(106, sense), 85);
        }
    }

    private static void resting() {
        for (int d = 0; d < 6; d++) {
            int one = 1 << d;
            int sides = 1 << (d + 5) % 6 | 1 << (d + 1) % 6;
            for (int sense = 0; sense < 2; sense++) {
                DUE.equal("rule " + d + " and 6", rule(one + 64, sense), sides);
                DUE.equal("rule beside " + d, rule(sides, sense), one + 64);
                DUE.equal("rule beside " + d + " and 6", rule(sides + 64, sense), sides + 64);
                DUE.equal("rule " + d + " alone", rule(one, sense), one);
            }
        }
    }

    private static void stay(int... some) {
        for (int bits : some) {
            DUE.equal("rule " + bits + ", 0 stays", rule(bits, 0), bits);
            DUE.equal("rule " + bits + ", 1 stays", rule(bits, 1), bits);
        }
    }

    /** What looks like one of the rule's cases but has one particle too many, too few, or beside its place. */
    private static void justBesideTheCases() {
        stay(0, 64, 63, 127);
        for (int d = 0; d < 6; d++) {
            int one = 1 << d;
            int next = 1 << (d + 1) % 6;
            int second = 1 << (d + 2) % 6;
            int opposite = 1 << (d + 3) % 6;
            stay(one, one + next, one + next + 64, one + second + 64);
            stay(one + opposite + next, one + opposite + next + 64);
            stay(one + opposite + second, one + opposite + second + 64);
            stay(one + next + second, one + next + second + 64);
            stay(63 - one, 127 - one, 63 - one - next, 127 - one - next);
            stay(63 - one - second, 127 - one - second);
        }
    }

    /** "All other bits stay": the rule's cases are written out here, by d and by what flies. */
    private static void allOtherBitsStay() {
        int[] cases = {9, 18, 36, 54, 45, 27, 73, 82, 100, 118, 109, 91, 21, 42, 85, 106,
            65, 66, 68, 72, 80, 96, 34, 5, 10, 20, 40, 17};
        boolean[] changes = new boolean[128];
        for (int bits : cases) {
            changes[bits] = true;
        }
        for (int bits = 0; bits <= 127; bits++) {
            for (int sense = 0; sense < 2; sense++) {
                DUE.equal("rule " + bits + ", " + sense + " changes", rule(bits, sense) == bits ? 0 : 1,
                        changes[bits] ? 1 : 0);
            }
        }
    }

    private static void everyBits() {
        int changed = 0;
        for (int bits = 0; bits <= 127; bits++) {
            for (int sense = 0; sense < 2; sense++) {
                int after = rule(bits, sense);
                String name = "rule " + bits + ", " + sense;
                DUE.equal(name + " number", Integer.bitCount(after), Integer.bitCount(bits));
                DUE.equal(name + " first momentum", total(after, FIRST), total(bits, FIRST));
                DUE.equal(name + " second momentum", total(after, SECOND), total(bits, SECOND));
                DUE.equal(name + " undone", rule(after, 1 - sense), bits);
                changed += after == bits ? 0 : 1;
            }
        }
        DUE.equal("bits that change", changed, 2 * (12 + 4 + 12));
    }

    private static int total(int bits, int[] momentum) {
        int total = 0;
        for (int kind = 0; kind < 7; kind++) {
            total += (bits >> kind & 1) * momentum[kind];
        }
        return total;
    }

    private static void refused() {
        for (int bits : new int[] {-1, 128, 137, Integer.MIN_VALUE, Integer.MAX_VALUE}) {
            DUE.badArgument("rule " + bits + ", 0", () -> rule(bits, 0));
        }
        for (int sense : new int[] {-1, 2, 3, Integer.MIN_VALUE, Integer.MAX_VALUE}) {
            DUE.badArgument("rule 9, " + sense, () -> rule(9, sense));
        }
    }
}
