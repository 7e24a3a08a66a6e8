/** Promises 21 to 27: the answers of all rules that stand, and the least sets of steps that none fits. */
public final class AnswersTest {
    private static final int UNKNOWN = -1, BAD = -2, STATE = -3, FAR = -5, NONE = -9;
    private static final int SUM = 0, UNLIKE = 1, TABLE = 2, LOAD = 3, RING = 4, CLAUSE = 5;
    private static final int AT_MOST = 0, EXACTLY = 1, NOT = 2;
    private static final Due due = new Due("AnswersTest");

    private static NarrowingKernel with(int unknowns, int least, int greatest) {
        NarrowingKernel k = new NarrowingKernel();
        for (int x = 0; x < unknowns; x++) {
            k.unknown(least, greatest);
        }
        return k;
    }

    private static int ruleOf(NarrowingKernel k, int kind, int a, int b, int need, int... amounts) {
        int r = k.rule(kind, a, b);
        for (int x = 0; x < amounts.length; x++) {
            due.is(x + 1, k.part(r, x, amounts[x], need));
        }
        return r;
    }

    private static void answerIs(NarrowingKernel k, int... numbers) {
        for (int x = 0; x < numbers.length; x++) {
            due.is(numbers[x], k.answer(x));
        }
    }

    /** 0 + 1 + 2 is 4, all unlike, out of 0 .. 3: {0, 1, 3} in six orders. */
    private static NarrowingKernel six() {
        NarrowingKernel k = with(3, 0, 3);
        ruleOf(k, UNLIKE, 0, 0, 0, 0, 0, 0);
        ruleOf(k, SUM, EXACTLY, 4, 0, 1, 1, 1);
        return k;
    }

    /** 20000 ways: 10 x 10 x 10 x 10 x 2, no rules. */
    private static NarrowingKernel brim() {
        NarrowingKernel k = with(4, 0, 9);
        k.unknown(4, 5);
        return k;
    }

    private static void solve() {
        due.about("promise 21: solve");
        NarrowingKernel k = six();
        due.is(STATE, k.answer(0));
        due.is(1, k.solve());
        answerIs(k, 0, 1, 3);
        due.is(15, k.range(0, 3));
        k.step(0, 1, 1);
        due.is(1, k.solve());
        answerIs(k, 1, 0, 3);
        k.step(1, 3, 2);
        due.is(0, k.solve());
        due.is(STATE, k.answer(0));
        due.is(STATE, k.next());
        k.undo(0);
        // a rule that was taken out has no say
        k.stand(0, false);
        due.is(1, k.solve());
        answerIs(k, 0, 1, 3);
        k.stand(1, false);
        due.is(1, k.solve());
        answerIs(k, 0, 0, 0);
        k = brim();
        due.is(1, k.solve());
        answerIs(k, 0, 0, 0, 0, 4);
        k.unknown(0, 1);
        due.is(FAR, k.solve());
        // what is far changes nothing: THE ANSWER stays
        answerIs(k, 0, 0, 0, 0, 4, STATE);
        // the ways are counted when all is narrowed, dead ranges have none
        k.rule(SUM, AT_MOST, 8);
        k.part(0, 0, 1, 0);
        due.is(FAR, k.solve());
        k.rule(SUM, AT_MOST, 4);
        k.part(1, 0, 1, 0);
        due.is(1, k.solve());
        due.is(10, k.range(0, 0));
        k.stand(0, false);
        k.stand(1, false);
        due.is(FAR, k.solve());
        k.rule(CLAUSE, 0, 0);
        due.is(0, k.solve());
        k = new NarrowingKernel();
        due.is(1, k.solve());
        k.rule(CLAUSE, 0, 0);
        due.is(0, k.solve());
    }

    private static void next() {
        due.about("promise 22: next");
        NarrowingKernel k = six();
        due.is(STATE, k.next());
        k.solve();
        int[][] all = {{0, 1, 3}, {0, 3, 1}, {1, 0, 3}, {1, 3, 0}, {3, 0, 1}, {3, 1, 0}};
        for (int i = 0; i < 6; i++) {
            answerIs(k, all[i]);
            due.is(i < 5 ? 1 : 0, k.next());
        }
        answerIs(k, 3, 1, 0);
        k.solve();
        // out of the ranges and by the rules as they are now, from an answer that is none any more
        k.step(0, 1, 2);
        due.is(1, k.next());
        answerIs(k, 3, 0, 1);
        k.undo(0);
        k.stand(0, false);
        due.is(1, k.next());
        answerIs(k, 3, 1, 0);
        due.is(0, k.next());
        k.rule(CLAUSE, 0, 0);
        due.is(0, k.next());
        answerIs(k, 3, 1, 0);
        k.unknown(0, 0);
        due.is(STATE, k.next());
        answerIs(k, 3, 1, 0, STATE);
        k = six();
        k.best(2, false);
        answerIs(k, 1, 3, 0);
        due.is(1, k.next());
        answerIs(k, 3, 0, 1);
        k = with(5, 0, 15);
        for (int x = 0; x < 5; x++) {
            k.rule(SUM, AT_MOST, 1);
            k.part(x, x, 1, 0);
        }
        k.solve();
        due.is(1, k.next());
        answerIs(k, 0, 0, 0, 0, 1);
        for (int x = 0; x < 5; x++) {
            k.stand(x, false);
        }
        due.is(FAR, k.next());
        answerIs(k, 0, 0, 0, 0, 1);
        k.unknown(0, 0);
        due.is(STATE, k.next());
        k = brim();
        k.solve();
        due.is(1, k.next());
        answerIs(k, 0, 0, 0, 0, 5);
        due.is(1, k.next());
        answerIs(k, 0, 0, 0, 1, 4);
        // the last unknown has one number above, with which the rule does not fit
        k = with(2, 0, 1);
        ruleOf(k, SUM, NOT, 2, 0, 1, 1);
        k.best(0, true);
        answerIs(k, 1, 0);
        due.is(0, k.next());
        k = with(2, 14, 15);
        k.solve();
        due.is(1, k.next());
        due.is(1, k.next());
        due.is(1, k.next());
        answerIs(k, 15, 15);
        due.is(0, k.next());
    }

    private static void answer() {
        due.about("promise 23: answer");
        NarrowingKernel k = six();
        due.is(UNKNOWN, k.answer(3));
        due.is(UNKNOWN, k.answer(-1));
        due.is(STATE, k.answer(0));
        k.solve();
        due.is(3, k.answer(2));
        due.is(UNKNOWN, k.answer(3));
        k.unknown(2, 2);
        due.is(STATE, k.answer(3));
        due.is(3, k.answer(2));
        k.solve();
        due.is(2, k.answer(3));
    }

    private static void count() {
        due.about("promise 24: count");
        NarrowingKernel k = six();
        due.is(BAD, k.count(0));
        due.is(BAD, k.count(20001));
        due.is(BAD, k.count(-1));
        due.is(6, k.count(20000));
        due.is(6, k.count(6));
        due.is(5, k.count(5));
        due.is(1, k.count(1));
        due.is(STATE, k.answer(0));
        k.step(0, 3, 0);
        due.is(2, k.count(20000));
        k.step(1, 3, 0);
        due.is(0, k.count(20000));
        k = brim();
        due.is(20000, k.count(20000));
        due.is(19999, k.count(19999));
        k.unknown(0, 1);
        due.is(FAR, k.count(1));
        due.is(BAD, k.count(0));
    }

    /** Every kind of rule, whether answers fit it, counted by hand or by other rules. */
    private static void kinds() {
        due.about("section 1: what fits a RULE");
        NarrowingKernel k = with(2, 0, 3);
        ruleOf(k, SUM, AT_MOST, 1, 0, 2, -1);
        due.is(4 + 3 + 1, k.count(99));
        k = with(2, 0, 3);
        ruleOf(k, SUM, NOT, 3, 0, 1, 1);
        due.is(12, k.count(99));
        k = with(3, 0, 3);
        ruleOf(k, UNLIKE, 0, 0, 0, 0, 0, 0);
        due.is(24, k.count(99));
        k = with(4, 0, 3);
        ruleOf(k, RING, 0, 0, 0, 0, 0, 0, 0);
        due.is(6, k.count(99));
        k = with(5, 0, 4);
        ruleOf(k, RING, 0, 0, 0, 0, 0, 0, 0, 0);
        due.is(24, k.count(99));
        k = with(3, 0, 3);
        // of three jobs of two times each only one at a time
        ruleOf(k, LOAD, 3, 0, 2, 2, 2, 2);
        due.is(0, k.count(99));
        k = with(3, 0, 4);
        ruleOf(k, LOAD, 3, 0, 2, 2, 2, 2);
        due.is(6, k.count(99));
        k = with(3, 0, 4);
        ruleOf(k, LOAD, 4, 0, 2, 2, 2, 2);
        due.is(125 - loadOfThree(), k.count(999));
        k = with(2, 0, 3);
        k.table(0, 0, 9);
        int[] cells = {1, 3, 3, 2, 0, 1, 3, 2, 2};
        for (int i = 0; i < 9; i++) {
            k.cell(0, i, cells[i]);
        }
        ruleOf(k, TABLE, 0, 0, 0, 0, 0);
        due.is(3, k.count(99));
        k.solve();
        answerIs(k, 0, 1);
        k.next();
        answerIs(k, 1, 3);
        k.next();
        answerIs(k, 3, 2);
        due.is(0, k.next());
        k = with(2, 0, 3);
        k.rule(CLAUSE, 0, 0);
        k.literal(0, 0, 0, 0);
        k.literal(0, 1, 1, 2);
        k.literal(0, 0, 3, 2);
        due.is(4 + 2 + 4 + 2, k.count(99));
    }

    /** In how many of 125 ways do three jobs of two times each all run at one time? */
    private static int loadOfThree() {
        int many = 0;
        for (int i = 0; i < 125; i++) {
            int a = i % 5, b = i / 5 % 5, c = i / 25;
            int last = Math.max(a, Math.max(b, c)), first = Math.min(a, Math.min(b, c));
            many += last < first + 2 ? 1 : 0;
        }
        return many;
    }

    private static void best() {
        due.about("promise 25: best");
        NarrowingKernel k = six();
        due.is(UNKNOWN, k.best(3, true));
        due.is(UNKNOWN, k.best(-1, false));
        due.is(3, k.best(0, true));
        answerIs(k, 3, 0, 1);
        due.is(0, k.best(2, false));
        answerIs(k, 1, 3, 0);
        due.is(3, k.best(1, true));
        answerIs(k, 0, 3, 1);
        k.step(1, 0, 2);
        due.is(1, k.best(1, true));
        answerIs(k, 0, 1, 3);
        k.step(0, 3, 2);
        due.is(NONE, k.best(0, false));
        due.is(STATE, k.answer(0));
        k.undo(0);
        k.solve();
        k.rule(CLAUSE, 0, 0);
        due.is(NONE, k.best(0, false));
        due.is(STATE, k.answer(0));
        k = with(2, 2, 4);
        due.is(4, k.best(0, true));
        answerIs(k, 4, 2);
        due.is(2, k.best(0, false));
        k = brim();
        due.is(9, k.best(3, true));
        answerIs(k, 0, 0, 0, 9, 4);
        k.unknown(0, 1);
        due.is(FAR, k.best(3, false));
        due.is(UNKNOWN, k.best(6, false));
        answerIs(k, 0, 0, 0, 9, 4);
    }

    private static void has() {
        due.about("promise 26: has");
        NarrowingKernel k = six();
        due.is(UNKNOWN, k.has(3, 9, 0));
        due.is(UNKNOWN, k.has(-1, 0, 0));
        due.is(BAD, k.has(0, 4, 0));
        due.is(BAD, k.has(0, -1, 0));
        due.is(BAD, k.has(0, 0, 16));
        due.is(BAD, k.has(0, 0, -1));
        due.is(1, k.has(0, 2, 2));
        due.is(0, k.has(0, 3, 2));
        due.is(2, k.has(0, 0, 1));
        due.is(2, k.has(0, 1, 3));
        due.is(1, k.has(0, 0, 3));
        due.is(0, k.has(0, 1, 4));
        due.is(1, k.has(2, 1, 0));
        due.is(STATE, k.answer(0));
        k.solve();
        k.step(1, 3, 3);
        due.is(1, k.has(2, 0, 1));
        due.is(2, k.has(2, 3, 1));
        k.step(0, 3, 2);
        due.is(3, k.has(2, 0, 1));
        k.undo(0);
        answerIs(k, 0, 1, 3);
        k.rule(CLAUSE, 0, 0);
        due.is(3, k.has(2, 0, 1));
        k = with(2, 2, 4);
        due.is(0, k.has(0, 3, 15));
        due.is(0, k.has(0, 3, 0));
        due.is(1, k.has(0, 0, 4));
        k = brim();
        due.is(2, k.has(4, 3, 5));
        k.unknown(0, 1);
        due.is(FAR, k.has(0, 0, 9));
        due.is(BAD, k.has(0, 0, 16));
    }

    private static void core() {
        due.about("promise 27: core");
        NarrowingKernel k = six();
        due.is(NONE, k.core());
        k.step(0, 2, 3);
        k.step(1, 0, 1);
        k.step(2, 0, 1);
        // narrowing alone does not see it: 0 + 1 + 2 is 4 needs a 3
        due.is(3, k.core());
        for (int i = 0; i < 3; i++) {
            due.is(i, k.reason(i));
        }
        due.is(NONE, k.reason(3));
        k.undo(2);
        due.is(NONE, k.core());
        due.is(NONE, k.reason(0));
        k.step(0, 3, 1);
        k.step(1, 0, 0);
        k.step(2, 0, 2);
        // 0 .. 4: the first ones are left out as long as none fits without them
        due.is(3, k.core());
        due.is(2, k.reason(0));
        due.is(3, k.reason(1));
        due.is(4, k.reason(2));
        k.undo(0);
        k.rule(CLAUSE, 0, 0);
        due.is(0, k.core());
        due.is(NONE, k.reason(0));
        k.step(0, 3, 2);
        due.is(0, k.core());
        // the ranges told have none by themselves, but that is not narrowed to be dead
        k = with(3, 0, 1);
        ruleOf(k, SUM, EXACTLY, 3, 0, 2, 2, 2);
        due.is(0, k.core());
        k.step(0, 3, 1);
        due.is(0, k.core());
        // far, by the ranges told, cut by no step, narrowed
        k = brim();
        due.is(NONE, k.core());
        k.unknown(0, 1);
        due.is(FAR, k.core());
        for (int x = 0; x < 6; x++) {
            k.step(x, 0, 4);
        }
        due.is(FAR, k.core());
        due.is(1, k.count(1));
        k.undo(0);
        k.rule(SUM, AT_MOST, 4);
        k.part(0, 0, 1, 0);
        due.is(NONE, k.core());
        k.step(1, 0, 4);
        k.rule(CLAUSE, 0, 0);
        due.is(NONE, k.core());
        k.undo(0);
        // what was left stays, if the next one is refused
        k = six();
        k.step(1, 0, 2);
        k.step(0, 3, 2);
        due.is(1, k.core());
        due.is(1, k.reason(0));
        due.is(BAD, k.why(0, 16));
        due.is(STATE, k.why(0, 15));
        due.is(1, k.reason(0));
    }

    /** As many unknowns, rules, parts and steps as there may be. */
    private static void brimful() {
        due.about("10 UNKNOWNS, 16 RULES of 6 PARTS, 12 STEPS");
        int[] counts = {20, 7, 8, 20, 120, 63};
        for (int kind = 0; kind < 6; kind++) {
            NarrowingKernel k = new NarrowingKernel();
            for (int x = 0; x < 6; x++) {
                // of those that begin with themselves or the next one, the first few are themselves
                due.is(x, k.unknown(kind == UNLIKE ? x : 0, kind == UNLIKE ? x + 1 : kind == RING ? 5 : 1));
            }
            for (int x = 6; x < 10; x++) {
                due.is(x, k.unknown(9, 9));
            }
            k.table(5, 2, 48);
            for (int i = 0; i < 48; i++) {
                // the rows are 0 .. 7 in bits
                k.cell(5, i, i / 6 >> i % 6 & 1);
            }
            int a = kind == SUM ? EXACTLY : kind == TABLE ? 5 : 3;
            for (int r = 0; r < 16; r++) {
                due.is(r, k.rule(kind, a, 3));
                for (int x = 0; x < 6; x++) {
                    due.is(x + 1, kind == CLAUSE ? k.literal(r, x, 3, 1) : k.part(r, x, 1, 1));
                }
            }
            due.is(counts[kind], k.count(20000));
            due.is(1, k.solve());
            for (int i = 1; i < counts[kind]; i++) {
                due.is(1, k.next());
            }
            due.is(0, k.next());
            due.is(9, k.best(9, true));
            for (int d = 0; d < 12; d++) {
                due.is(d, k.step(9, 1, 9));
            }
            due.is(NONE, k.core());
            due.is(STATE, k.why(9, 9));
            k.undo(0);
            k.rule(CLAUSE, 0, 0);
            due.is(16, k.total(1));
        }
        NarrowingKernel k = with(10, 0, 1);
        due.is(1024, k.count(20000));
        due.is(0, k.best(9, false));
        due.is(1, k.next());
        answerIs(k, 0, 0, 0, 0, 0, 0, 0, 0, 0, 1);
        due.is(1, k.next());
        answerIs(k, 0, 0, 0, 0, 0, 0, 0, 0, 1, 0);
    }

    public static void main(String[] args) {
        solve();
        next();
        answer();
        count();
        kinds();
        best();
        has();
        core();
        brimful();
        due.end();
    }
}
