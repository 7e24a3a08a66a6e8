/** Promises 14 to 20: narrowing, steps, and which of them took a number. */
public final class NarrowingTest {
    private static final int UNKNOWN = -1, BAD = -2, STATE = -3, FULL = -4, NONE = -9;
    private static final int SUM = 0, UNLIKE = 1, TABLE = 2, LOAD = 3, RING = 4, CLAUSE = 5;
    private static final int AT_MOST = 0, EXACTLY = 1, NOT = 2;
    private static final Due due = new Due("NarrowingTest");

    private static NarrowingKernel with(int unknowns, int least, int greatest) {
        NarrowingKernel k = new NarrowingKernel();
        for (int x = 0; x < unknowns; x++) {
            k.unknown(least, greatest);
        }
        return k;
    }

    /** A rule that has the unknowns 0, 1, .. as parts, with the multiples or lengths told. */
    private static int ruleOf(NarrowingKernel k, int kind, int a, int b, int need, int... amounts) {
        int r = k.rule(kind, a, b);
        for (int x = 0; x < amounts.length; x++) {
            due.is(x + 1, k.part(r, x, amounts[x], need));
        }
        return r;
    }

    private static void ranges(NarrowingKernel k, int... bits) {
        for (int x = 0; x < bits.length; x++) {
            due.is(bits[x], k.range(x, 3));
        }
    }

    private static void sums() {
        due.about("promise 14: SUM");
        NarrowingKernel k = with(2, 0, 5);
        ruleOf(k, SUM, AT_MOST, 6, 0, 2, 3);
        due.is(5, k.narrow());
        ranges(k, 15, 7);
        due.is(0, k.narrow());
        k = with(2, 0, 5);
        ruleOf(k, SUM, AT_MOST, -3, 0, 1, -2);
        due.is(2, k.takes(0));
        k.narrow();
        ranges(k, 0x3F, 0x3C);
        k = with(2, 0, 5);
        ruleOf(k, SUM, EXACTLY, 9, 0, 1, 1);
        due.is(8, k.narrow());
        ranges(k, 0x30, 0x30);
        // bounds alone are looked at: three even ones are never 3 together, yet none goes
        k = with(3, 0, 1);
        ruleOf(k, SUM, EXACTLY, 3, 0, 2, 2, 2);
        due.is(0, k.narrow());
        due.is(0, k.solve());
        // what is taken lets the same rule take more, till a range has none
        k = with(2, 0, 5);
        ruleOf(k, SUM, EXACTLY, 5, 0, 2, 2);
        due.is(6, k.takes(0));
        due.is(STATE, k.narrow());
        ranges(k, 0x3F, 0x3F);
        k = with(2, 0, 5);
        ruleOf(k, SUM, NOT, 5, 0, 1, 1);
        due.is(0, k.narrow());
        k.step(0, 3, 2);
        due.is(1, k.narrow());
        ranges(k, 4, 0x37);
        k = with(1, 0, 5);
        ruleOf(k, SUM, NOT, 9, 0, 3);
        due.is(1, k.narrow());
        ranges(k, 0x37);
        k = with(1, 3, 3);
        ruleOf(k, SUM, NOT, 9, 0, 3);
        due.is(STATE, k.narrow());
        ranges(k, 8);
    }

    private static void unlikes() {
        due.about("promise 14: UNLIKE");
        NarrowingKernel k = new NarrowingKernel();
        k.unknown(1, 2);
        k.unknown(1, 2);
        k.unknown(1, 4);
        k.unknown(2, 5);
        ruleOf(k, UNLIKE, 0, 0, 0, 0, 0, 0, 0);
        due.is(3, k.takes(0));
        due.is(3, k.narrow());
        ranges(k, 6, 6, 0x18, 0x38);
        k.step(2, 3, 4);
        due.is(1, k.narrow());
        ranges(k, 6, 6, 0x10, 0x28);
        // three have but two numbers
        k = with(3, 7, 8);
        ruleOf(k, UNLIKE, 0, 0, 0, 0, 0, 0);
        due.is(6, k.takes(0));
        due.is(STATE, k.narrow());
        ranges(k, 0x180, 0x180, 0x180);
        k = with(6, 0, 5);
        ruleOf(k, UNLIKE, 0, 0, 0, 0, 0, 0, 0, 0, 0);
        due.is(0, k.narrow());
        k = with(6, 0, 4);
        ruleOf(k, UNLIKE, 0, 0, 0, 0, 0, 0, 0, 0, 0);
        due.is(STATE, k.narrow());
    }

    private static void tables() {
        due.about("promise 14: TABLE");
        NarrowingKernel k = with(2, 0, 4);
        k.table(3, 1, 7);
        int[] cells = {1, 4, 2, 2, 3, 0, 0};
        for (int i = 0; i < 7; i++) {
            k.cell(3, i, cells[i]);
        }
        ruleOf(k, TABLE, 3, 0, 0, 0, 0);
        due.is(4, k.takes(0));
        due.is(4, k.narrow());
        ranges(k, 14, 0x15);
        k.step(1, 1, 2);
        due.is(1, k.narrow());
        ranges(k, 6, 0x14);
        k.undo(0);
        k.step(0, 1, 2);
        due.is(1, k.narrow());
        ranges(k, 12, 5);
        k.undo(0);
        // the same unknown order, other rows: three parts, so that two rows are left and one cut short
        k.unknown(0, 9);
        k.part(0, 2, 0, 0);
        k.narrow();
        ranges(k, 6, 0x18, 5);
        k.tear(3);
        due.is(20, k.takes(0));
        due.is(STATE, k.narrow());
        k.table(3, 0, 2);
        due.is(STATE, k.narrow());
        k.table(3, 0, 0);
        due.is(STATE, k.narrow());
        k.table(3, 0, 3);
        due.is(4 + 4 + 9, k.narrow());
        ranges(k, 1, 1, 1);
    }

    private static void loads() {
        due.about("promise 14: LOAD");
        NarrowingKernel k = new NarrowingKernel();
        k.unknown(2, 3);
        k.unknown(0, 6);
        // job 0, as long as 3, must run at 3 and 4; a job of 2 beside it can begin at 0, 1, 5, 6
        ruleOf(k, LOAD, 3, 0, 2, 3, 2);
        due.is(3, k.takes(0));
        due.is(3, k.narrow());
        ranges(k, 12, 0x63);
        // a job that must run at 3 and 4: beside it at 5, at 2, there is room for one of its two numbers
        for (int beside = 2; beside <= 5; beside += 3) {
            k = new NarrowingKernel();
            k.unknown(2, 3);
            k.unknown(beside, beside);
            k.rule(LOAD, 3, 0);
            k.part(0, 0, 3, 2);
            k.part(0, 1, 1, 2);
            due.is(1, k.takes(0));
            due.is(1, k.narrow());
            ranges(k, beside == 2 ? 8 : 4);
        }
        k = new NarrowingKernel();
        k.unknown(0, 3);
        k.unknown(0, 0);
        ruleOf(k, LOAD, 3, 0, 2, 2, 2);
        due.is(2, k.narrow());
        ranges(k, 12, 1);
        // a job of no length does not run; a need of 0 beside others that are too many goes as well
        k = with(2, 0, 3);
        ruleOf(k, LOAD, 0, 0, 20, 0, 0);
        due.is(0, k.narrow());
        k = with(1, 15, 15);
        ruleOf(k, LOAD, 19, 0, 20, 15);
        due.is(STATE, k.narrow());
        k = with(1, 15, 15);
        ruleOf(k, LOAD, 20, 0, 20, 15);
        due.is(0, k.narrow());
        k = new NarrowingKernel();
        k.unknown(4, 4);
        k.unknown(0, 9);
        k.rule(LOAD, 5, 0);
        k.part(0, 0, 2, 6);
        k.part(0, 1, 1, 0);
        due.is(1 + 2, k.takes(0));
    }

    private static void rings() {
        due.about("promise 14: RING");
        NarrowingKernel k = with(4, 0, 9);
        ruleOf(k, RING, 0, 0, 0, 0, 0, 0, 0);
        due.is(28, k.takes(0));
        due.is(28, k.narrow());
        ranges(k, 14, 13, 11, 7);
        k.step(0, 3, 1);
        k.step(1, 3, 2);
        // 0, 1, 2 are one behind the other: 2 may not close the ring yet, so that it ends as 3, 0
        due.is(4, k.narrow());
        ranges(k, 2, 4, 8, 1);
        k = with(1, 0, 3);
        ruleOf(k, RING, 0, 0, 0, 0);
        due.is(3, k.narrow());
        ranges(k, 1);
        k = with(2, 0, 1);
        ruleOf(k, RING, 0, 0, 0, 0, 0);
        due.is(2, k.narrow());
        ranges(k, 2, 1);
        // as UNLIKE, with numbers above the last part too: 3 and 8 are of parts 0 and 1
        k = with(4, 0, 8);
        for (int v = 0; v <= 7; v++) {
            if (v != 3) {
                due.is(k.range(0, 0) - 1, k.hole(0, v));
                due.is(k.range(1, 0) - 1, k.hole(1, v));
            }
        }
        ruleOf(k, RING, 0, 0, 0, 0, 0, 0, 0);
        due.is(1 + 1 + 7 + 6, k.takes(0));
    }

    private static void clauses() {
        due.about("promise 14: CLAUSE");
        NarrowingKernel k = with(2, 0, 5);
        k.rule(CLAUSE, 0, 0);
        k.literal(0, 0, 1, 3);
        k.literal(0, 1, 0, 1);
        due.is(0, k.narrow());
        k.step(0, 0, 2);
        due.is(4, k.takes(0));
        due.is(4, k.narrow());
        ranges(k, 7, 3);
        k.undo(0);
        // several of one unknown: what none of them is so with goes
        k.rule(CLAUSE, 0, 0);
        k.literal(1, 0, 3, 1);
        k.literal(1, 0, 1, 4);
        k.literal(1, 1, 1, 9);
        due.is(3, k.takes(1));
        due.is(3, k.narrow());
        ranges(k, 0x32, 0x3F);
        k.step(0, 3, 5);
        due.is(0, k.narrow());
        k.undo(0);
        // all are false: every number of each goes, counted once
        k.rule(CLAUSE, 0, 0);
        k.literal(2, 0, 3, 9);
        k.literal(2, 0, 1, 8);
        k.literal(2, 1, 2, 15);
        k.literal(2, 1, 3, 15);
        due.is(0, k.takes(2));
        k.rule(CLAUSE, 0, 0);
        k.literal(3, 0, 3, 9);
        k.literal(3, 0, 1, 8);
        k.literal(3, 1, 3, 15);
        due.is(12, k.takes(3));
        due.is(STATE, k.narrow());
    }

    private static void empties() {
        due.about("promise 14: RULES without PARTS");
        int[][] dead = {{SUM, AT_MOST, -1}, {SUM, EXACTLY, 1}, {SUM, NOT, 0}, {TABLE, 0, 0}, {TABLE, 1, 0},
            {CLAUSE, 0, 0}};
        int[][] alive = {{SUM, AT_MOST, 0}, {SUM, EXACTLY, 0}, {SUM, NOT, 1}, {UNLIKE, 0, 0}, {LOAD, 0, 0},
            {RING, 0, 0}};
        for (int[] rule : dead) {
            NarrowingKernel k = with(1, 0, 1);
            k.table(1, 0, 4);
            k.rule(rule[0], rule[1], rule[2]);
            due.is(0, k.takes(0));
            due.is(STATE, k.narrow());
            due.is(0, k.solve());
            k.stand(0, false);
            due.is(0, k.narrow());
            due.is(1, k.solve());
        }
        for (int[] rule : alive) {
            NarrowingKernel k = with(1, 0, 1);
            k.rule(rule[0], rule[1], rule[2]);
            due.is(0, k.takes(0));
            due.is(0, k.narrow());
            due.is(2, k.count(9));
        }
    }

    private static void narrowTogether() {
        due.about("promise 14: again and again, till none takes any");
        NarrowingKernel k = with(10, 0, 15);
        for (int x = 0; x < 9; x++) {
            // x is below x + 1
            k.rule(SUM, AT_MOST, -1);
            k.part(x, x, 1, 0);
            k.part(x, x + 1, -1, 0);
        }
        due.is(90, k.narrow());
        for (int x = 0; x < 10; x++) {
            due.is(x, k.range(x, 1));
            due.is(x + 6, k.range(x, 2));
        }
        due.is(0, k.step(9, 3, 9));
        due.is(54, k.narrow());
        due.is(9, k.range(9, 1));
        due.is(0, k.range(0, 2));
    }

    private static void takes() {
        due.about("promise 15: takes");
        NarrowingKernel k = with(2, 0, 3);
        due.is(UNKNOWN, k.takes(0));
        ruleOf(k, SUM, EXACTLY, 0, 0, 1, 1);
        due.is(UNKNOWN, k.takes(1));
        due.is(UNKNOWN, k.takes(-1));
        due.is(6, k.takes(0));
        k.stand(0, false);
        due.is(6, k.takes(0));
        due.is(15, k.range(0, 3));
        k.stand(0, true);
        due.is(6, k.narrow());
        due.is(0, k.takes(0));
        // looked at once: what it could take after that is not counted
        k = with(2, 0, 9);
        ruleOf(k, SUM, EXACTLY, 4, 0, 1, 2);
        due.is(5 + 7, k.takes(0));
        k.step(0, 2, 0);
        due.is(5 + 8, k.takes(0));
        k.narrow();
        due.is(0, k.takes(0));
    }

    private static void step() {
        due.about("promise 16: step");
        NarrowingKernel k = with(2, 2, 5);
        due.is(UNKNOWN, k.step(2, 0, 0));
        due.is(UNKNOWN, k.step(-1, 9, 99));
        due.is(BAD, k.step(0, -1, 3));
        due.is(BAD, k.step(0, 4, 3));
        due.is(BAD, k.step(0, 0, 16));
        due.is(BAD, k.step(0, 0, -1));
        due.is(STATE, k.step(0, 0, 1));
        due.is(STATE, k.step(0, 1, 6));
        due.is(STATE, k.step(0, 3, 15));
        due.is(0, k.total(2));
        due.is(0, k.step(0, 0, 4));
        ranges(k, 0x1C, 0x3C);
        due.is(1, k.step(0, 1, 3));
        ranges(k, 0x18, 0x3C);
        due.is(2, k.step(0, 2, 3));
        ranges(k, 0x10, 0x3C);
        due.is(STATE, k.step(0, 2, 4));
        due.is(3, k.step(1, 3, 3));
        ranges(k, 0x10, 8);
        for (int d = 4; d < 12; d++) {
            due.is(d, k.step(0, 1, 0));
        }
        due.is(FULL, k.step(0, 1, 0));
        due.is(STATE, k.step(0, 0, 3));
        due.is(BAD, k.step(0, 0, 16));
        due.is(12, k.total(2));
        due.is(0x3C, k.range(0, 4));
    }

    private static void undo() {
        due.about("promise 17: undo");
        NarrowingKernel k = with(2, 0, 5);
        ruleOf(k, SUM, AT_MOST, 6, 0, 1, 1);
        due.is(0, k.undo(0));
        due.is(BAD, k.undo(1));
        due.is(BAD, k.undo(-1));
        k.step(0, 1, 3);
        k.step(1, 1, 2);
        due.is(3, k.narrow());
        ranges(k, 0x18, 0xC);
        k.step(0, 3, 4);
        due.is(1, k.narrow());
        due.is(BAD, k.undo(4));
        due.is(0, k.undo(3));
        ranges(k, 0x10, 4);
        due.is(1, k.undo(2));
        ranges(k, 0x18, 0xC);
        due.is(0, k.undo(2));
        ranges(k, 0x18, 0xC);
        due.is(2, k.undo(0));
        ranges(k, 0x3F, 0x3F);
        due.is(0, k.total(2));
        // as they were ahead of the step: what was narrowed by then stays so
        k = with(1, 0, 5);
        ruleOf(k, SUM, AT_MOST, 3, 0, 1);
        due.is(2, k.narrow());
        k.step(0, 3, 1);
        due.is(1, k.undo(0));
        ranges(k, 15);
    }

    private static void range() {
        due.about("promise 18: range");
        NarrowingKernel k = new NarrowingKernel();
        due.is(UNKNOWN, k.range(0, 5));
        k.unknown(3, 9);
        k.hole(0, 4);
        due.is(UNKNOWN, k.range(1, 0));
        due.is(UNKNOWN, k.range(-1, 0));
        due.is(BAD, k.range(0, 5));
        due.is(BAD, k.range(0, -1));
        due.is(6, k.range(0, 0));
        due.is(3, k.range(0, 1));
        due.is(9, k.range(0, 2));
        due.is(0x3E8, k.range(0, 3));
        due.is(0x3E8, k.range(0, 4));
        k.step(0, 1, 4);
        k.step(0, 2, 9);
        due.is(4, k.range(0, 0));
        due.is(5, k.range(0, 1));
        due.is(8, k.range(0, 2));
        due.is(0x1E0, k.range(0, 3));
        due.is(0x3E8, k.range(0, 4));
    }

    private static void why() {
        due.about("promise 19: why");
        NarrowingKernel k = with(3, 0, 4);
        ruleOf(k, UNLIKE, 0, 0, 0, 0, 0, 0);
        k.hole(2, 4);
        due.is(UNKNOWN, k.why(3, 0));
        due.is(UNKNOWN, k.why(-1, 99));
        due.is(BAD, k.why(0, 16));
        due.is(BAD, k.why(0, -1));
        due.is(STATE, k.why(2, 4));
        due.is(STATE, k.why(2, 0));
        k.step(1, 0, 3);
        k.step(0, 0, 1);
        k.step(1, 0, 1);
        k.step(2, 1, 1);
        // 2 has no 1, as 0 and 1 have 0 .. 1 alone; not narrowed yet, yet it is asked of the told ranges
        due.is(0xE, k.range(2, 3));
        due.is(2, k.why(2, 1));
        due.is(1, k.reason(0));
        due.is(2, k.reason(1));
        due.is(NONE, k.reason(2));
        due.is(1, k.why(2, 0));
        due.is(3, k.reason(0));
        due.is(STATE, k.why(2, 2));
        due.is(3, k.reason(0));
        // of two steps that are enough each, the first is left out
        due.is(1, k.why(1, 4));
        due.is(2, k.reason(0));
        // dead ranges lack every number told
        k.step(2, 0, 1);
        due.is(STATE, k.narrow());
        due.is(2, k.why(0, 0));
        due.is(2, k.reason(0));
        due.is(4, k.reason(1));
        due.is(NONE, k.reason(2));
        due.is(STATE, k.why(2, 4));
        k.undo(0);
        k.rule(CLAUSE, 0, 0);
        due.is(0, k.why(0, 0));
        due.is(NONE, k.reason(0));
    }

    private static void reason() {
        due.about("promise 20: reason");
        NarrowingKernel k = with(2, 0, 3);
        ruleOf(k, SUM, AT_MOST, 3, 0, 1, 1);
        due.is(NONE, k.reason(0));
        k.step(1, 0, 3);
        k.step(0, 1, 2);
        due.is(1, k.why(1, 3));
        due.is(1, k.reason(0));
        due.is(NONE, k.reason(1));
        due.is(NONE, k.reason(-1));
        due.is(NONE, k.reason(Integer.MAX_VALUE));
        due.is(NONE, k.reason(Integer.MIN_VALUE));
        due.is(BAD, k.why(1, 16));
        due.is(STATE, k.why(1, 0));
        due.is(1, k.reason(0));
        k.undo(0);
        due.is(1, k.reason(0));
        due.is(NONE, k.core());
        due.is(NONE, k.reason(0));
    }

    public static void main(String[] args) {
        sums();
        unlikes();
        tables();
        loads();
        rings();
        clauses();
        empties();
        narrowTogether();
        takes();
        step();
        undo();
        range();
        why();
        reason();
        due.end();
    }
}
