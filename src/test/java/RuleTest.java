/** Promise 4 (rule). */
public final class RuleTest {
    private static final int[] FIRST = {1, 0, -1, -1, 0, 1, 0};
    private static final int[] SECOND = {0, 1, 1, 0, -1, -1, 0};
    private static final Due DUE = new Due();

    public static void main(String[] args) {
        SixWayGas gas = new SixWayGas(8, 8);
        headOn(gas);
        threeway(gas);
        resting(gas);
        everyBits(gas);
        refused(gas);
        DUE.end();
    }

    private static void headOn(SixWayGas gas) {
        int[][] becomes = {{9, 18, 36}, {18, 36, 9}, {36, 9, 18}, {54, 45, 27}, {45, 27, 54}, {27, 54, 45}};
        for (int[] row : becomes) {
            DUE.equal("rule " + row[0] + ", 0", gas.rule(row[0], 0), row[1]);
            DUE.equal("rule " + row[0] + ", 1", gas.rule(row[0], 1), row[2]);
            DUE.equal("rule " + row[0] + " and 6, 0", gas.rule(row[0] + 64, 0), row[1] + 64);
            DUE.equal("rule " + row[0] + " and 6, 1", gas.rule(row[0] + 64, 1), row[2] + 64);
        }
    }

    private static void threeway(SixWayGas gas) {
        for (int sense = 0; sense < 2; sense++) {
            DUE.equal("rule 21", gas.rule(21, sense), 42);
            DUE.equal("rule 42", gas.rule(42, sense), 21);
            DUE.equal("rule 85", gas.rule(85, sense), 106);
            DUE.equal("rule 106", gas.rule(106, sense), 85);
        }
    }

    private static void resting(SixWayGas gas) {
        for (int d = 0; d < 6; d++) {
            int one = 1 << d;
            int sides = 1 << (d + 5) % 6 | 1 << (d + 1) % 6;
            for (int sense = 0; sense < 2; sense++) {
                DUE.equal("rule " + d + " and 6", gas.rule(one + 64, sense), sides);
                DUE.equal("rule beside " + d, gas.rule(sides, sense), one + 64);
                DUE.equal("rule beside " + d + " and 6", gas.rule(sides + 64, sense), sides + 64);
                DUE.equal("rule " + d + " alone", gas.rule(one, sense), one);
            }
        }
    }

    private static void everyBits(SixWayGas gas) {
        int changed = 0;
        for (int bits = 0; bits <= 127; bits++) {
            for (int sense = 0; sense < 2; sense++) {
                int after = gas.rule(bits, sense);
                String name = "rule " + bits + ", " + sense;
                DUE.equal(name + " number", Integer.bitCount(after), Integer.bitCount(bits));
                DUE.equal(name + " first momentum", total(after, FIRST), total(bits, FIRST));
                DUE.equal(name + " second momentum", total(after, SECOND), total(bits, SECOND));
                DUE.equal(name + " undone", gas.rule(after, 1 - sense), bits);
                changed += after == bits ? 0 : 1;
            }
        }
        DUE.equal("bits that change", changed, 2 * (12 + 4 + 12));
    }

    private static int total(int bits, int[] momentum) {
        int total = 0;
        for (int kind = 0; kind < 7; kind++) {
            total += (bits >> kind & 1) * momentum[kind];
        }
        return total;
    }

    private static void refused(SixWayGas gas) {
        for (int bits : new int[] {-1, 128, 137, Integer.MIN_VALUE, Integer.MAX_VALUE}) {
            DUE.badArgument("rule " + bits + ", 0", () -> gas.rule(bits, 0));
        }
        for (int sense : new int[] {-1, 2, 3, Integer.MIN_VALUE, Integer.MAX_VALUE}) {
            DUE.badArgument("rule 9, " + sense, () -> gas.rule(9, sense));
        }
    }
}
