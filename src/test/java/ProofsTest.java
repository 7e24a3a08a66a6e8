/** Promises 28 to 33: proofs, and what there is in all. */
public final class ProofsTest {
    private static final int UNKNOWN = -1, BAD = -2, FULL = -4, FAR = -5, NONE = -9;
    private static final int SUM = 0, UNLIKE = 1, TABLE = 2, LOAD = 3, RING = 4, CLAUSE = 5;
    private static final int AT_MOST = 0, EXACTLY = 1, NOT = 2;
    private static final int IS_AT_MOST = 0, IS_AT_LEAST = 1, IS_NOT = 2, IS_JUST = 3;
    private static final Due due = new Due("ProofsTest");

    private static NarrowingKernel with(int unknowns, int least, int greatest) {
        NarrowingKernel k = new NarrowingKernel();
        for (int x = 0; x < unknowns; x++) {
            k.unknown(least, greatest);
        }
        return k;
    }

    /** A line from rule r (NONE: from lines) of literals told as x, sort, v, one behind the other. */
    private static int lineOf(NarrowingKernel k, int r, int... literals) {
        int l = k.line(r);
        for (int i = 0; i + 2 < literals.length; i += 3) {
            due.is(i / 3 + 1, k.says(l, literals[i], literals[i + 1], literals[i + 2]));
        }
        return l;
    }

    private static void line() {
        due.about("promise 28: line");
        NarrowingKernel k = with(1, 0, 1);
        due.is(UNKNOWN, k.line(0));
        due.is(0, k.line(NONE));
        k.rule(UNLIKE, 0, 0);
        due.is(1, k.line(0));
        due.is(UNKNOWN, k.line(1));
        due.is(UNKNOWN, k.line(-1));
        due.is(UNKNOWN, k.line(-8));
        due.is(UNKNOWN, k.line(-10));
        k.step(0, 0, 0);
        for (int l = 2; l < 40; l++) {
            due.is(l, k.line(l % 2 == 0 ? 0 : NONE));
        }
        due.is(FULL, k.line(0));
        due.is(FULL, k.line(NONE));
        due.is(UNKNOWN, k.line(1));
        due.is(40, k.total(3));
        due.is(1, k.range(0, 3));
    }

    private static void says() {
        due.about("promise 29: says");
        NarrowingKernel k = with(1, 0, 1);
        due.is(UNKNOWN, k.says(0, 0, 0, 0));
        k.line(NONE);
        due.is(UNKNOWN, k.says(1, 0, 0, 0));
        due.is(UNKNOWN, k.says(-1, 0, 0, 0));
        due.is(UNKNOWN, k.says(0, 1, 9, 0));
        due.is(UNKNOWN, k.says(0, -1, 0, 0));
        due.is(BAD, k.says(0, 0, -1, 0));
        due.is(BAD, k.says(0, 0, 4, 0));
        due.is(BAD, k.says(0, 0, 0, -1));
        due.is(BAD, k.says(0, 0, 0, 16));
        for (int n = 1; n <= 6; n++) {
            due.is(n, k.says(0, 0, IS_JUST, 15));
        }
        due.is(FULL, k.says(0, 0, 0, 0));
        due.is(BAD, k.says(0, 0, 0, 16));
        due.is(0, k.check());
    }

    private static void forge() {
        due.about("promise 30: forge");
        NarrowingKernel k = with(2, 0, 3);
        due.is(UNKNOWN, k.forge(0, 0, 0, 0));
        lineOf(k, NONE, 1, IS_AT_MOST, 2, 0, IS_AT_LEAST, 1);
        due.is(UNKNOWN, k.forge(1, 0, 0, 0));
        due.is(UNKNOWN, k.forge(-1, 0, 0, 0));
        due.is(UNKNOWN, k.forge(0, 2, 9, 0));
        due.is(UNKNOWN, k.forge(0, -1, 0, 0));
        due.is(BAD, k.forge(0, 0, -1, 0));
        due.is(BAD, k.forge(0, 0, 4, 0));
        due.is(BAD, k.forge(0, 0, 0, -1));
        due.is(BAD, k.forge(0, 0, 0, 16));
        due.is(0, k.check());
        due.is(1, k.forge(0, 0, IS_AT_MOST, 3));
        due.is(NONE, k.check());
        due.is(1, k.forge(0, 0, IS_AT_MOST, 2));
        due.is(0, k.check());
        due.is(1, k.forge(0, 1, IS_AT_LEAST, 0));
        due.is(NONE, k.check());
        // it is still of the same unknown
        k.hole(1, 3);
        due.is(1, k.forge(0, 1, IS_JUST, 0));
        due.is(NONE, k.check());
        due.is(1, k.forge(0, 0, IS_JUST, 0));
        due.is(0, k.check());
    }

    private static void linesFromRules() {
        due.about("promise 31: check, LINES from RULES");
        NarrowingKernel k = with(3, 0, 3);
        due.is(NONE, k.check());
        k.rule(SUM, EXACTLY, 3);
        k.part(0, 0, 1, 0);
        k.part(0, 1, 2, 0);
        // 0 is 1 or 3
        lineOf(k, 0, 0, IS_JUST, 1, 0, IS_AT_LEAST, 3);
        due.is(NONE, k.check());
        k.forge(0, 1, IS_AT_MOST, 0);
        due.is(0, k.check());
        k.forge(0, 1, IS_JUST, 3);
        due.is(NONE, k.check());
        k.stand(0, false);
        due.is(0, k.check());
        k.stand(0, true);
        // an unknown that the rule does not look at
        lineOf(k, 0, 2, IS_NOT, 0);
        due.is(1, k.check());
        k.forge(1, 0, IS_AT_MOST, 3);
        due.is(NONE, k.check());
        // of the numbers told: steps and narrowing have no say, a hole has
        lineOf(k, 0, 0, IS_JUST, 3);
        due.is(2, k.check());
        k.step(1, 3, 0);
        k.narrow();
        due.is(8, k.range(0, 3));
        due.is(2, k.check());
        k.undo(0);
        k.hole(0, 1);
        due.is(NONE, k.check());
        // without literals: right, if nothing told fits the rule
        lineOf(k, 0);
        due.is(3, k.check());
        k.hole(0, 3);
        due.is(NONE, k.check());
        // by answers of the rule, not by narrowing alone: 2 x + 2 y + 2 z is never 3
        k = with(3, 0, 1);
        k.rule(SUM, EXACTLY, 3);
        for (int x = 0; x < 3; x++) {
            k.part(0, x, 2, 0);
        }
        lineOf(k, 0);
        due.is(NONE, k.check());
        due.is(1, k.refutes());
    }

    private static void everyKind() {
        due.about("promise 31: check, RULES of every kind");
        int[][] rules = {{SUM, NOT, 2}, {UNLIKE, 0, 0}, {TABLE, 0, 0}, {LOAD, 1, 0}, {RING, 0, 0}, {CLAUSE, 0, 0}};
        for (int kind = 0; kind < 6; kind++) {
            NarrowingKernel k = with(2, 0, 2);
            k.table(0, 0, 4);
            k.cell(0, 0, 2);
            k.cell(0, 2, 1);
            k.cell(0, 3, 2);
            k.rule(rules[kind][0], rules[kind][1], rules[kind][2]);
            for (int x = 0; x < 2; x++) {
                if (kind == CLAUSE) {
                    k.literal(0, x, IS_JUST, 1);
                } else {
                    k.part(0, x, 1, 1);
                }
            }
            for (int v = 0; v < 3; v++) {
                for (int w = 0; w < 3; w++) {
                    boolean fits = switch (kind) {
                        case SUM -> v + w != 2;
                        case UNLIKE, LOAD -> v != w;
                        case TABLE -> v == 2 && w == 0 || v == 1 && w == 2;
                        case RING -> v == 1 && w == 0;
                        default -> v == 1 || w == 1;
                    };
                    lineOf(k, 0, 0, IS_NOT, v, 1, IS_NOT, w);
                    due.is(fits ? k.total(3) - 1 : NONE, k.check());
                    // so that the next ones are looked at too
                    k.forge(k.total(3) - 1, 0, IS_AT_LEAST, 0);
                }
            }
        }
    }

    private static void linesFromLines() {
        due.about("promise 31: check, LINES from LINES");
        NarrowingKernel k = with(3, 0, 3);
        // always so by itself
        lineOf(k, NONE, 0, IS_AT_MOST, 1, 0, IS_AT_LEAST, 2);
        due.is(NONE, k.check());
        lineOf(k, NONE, 0, IS_AT_MOST, 1, 0, IS_AT_LEAST, 3);
        due.is(1, k.check());
        k = with(3, 0, 3);
        k.rule(CLAUSE, 0, 0);
        k.literal(0, 0, IS_NOT, 0);
        k.literal(0, 1, IS_JUST, 2);
        k.rule(CLAUSE, 0, 0);
        k.literal(1, 1, IS_NOT, 2);
        k.literal(1, 2, IS_AT_LEAST, 3);
        // rules have no say in it, lines ahead have
        lineOf(k, NONE, 0, IS_NOT, 0, 2, IS_JUST, 3);
        due.is(0, k.check());
        k.forge(0, 0, IS_AT_LEAST, 0);
        lineOf(k, 0, 0, IS_NOT, 0, 1, IS_JUST, 2);
        lineOf(k, NONE, 0, IS_NOT, 0, 2, IS_JUST, 3);
        due.is(2, k.check());
        k.forge(2, 0, IS_AT_LEAST, 0);
        lineOf(k, 1, 1, IS_NOT, 2, 2, IS_AT_LEAST, 3);
        lineOf(k, NONE, 0, IS_NOT, 0, 2, IS_JUST, 3);
        due.is(NONE, k.check());
        due.is(0, k.refutes());
        // a line ahead counts as it says, right or not: without literals it is dead
        lineOf(k, NONE);
        due.is(5, k.check());
        due.is(0, k.refutes());
        k.says(5, 0, IS_AT_MOST, 3);
        due.is(NONE, k.check());
        // a line behind has no say
        k = with(1, 0, 3);
        lineOf(k, NONE, 0, IS_AT_MOST, 2);
        k.rule(CLAUSE, 0, 0);
        k.literal(0, 0, IS_AT_MOST, 2);
        lineOf(k, 0, 0, IS_AT_MOST, 2);
        due.is(0, k.check());
        // steps have no say either: of the ranges told
        k.step(0, 0, 1);
        due.is(0, k.check());
    }

    private static void far() {
        due.about("promises 31, 32: FAR");
        NarrowingKernel k = with(6, 0, 9);
        k.unknown(0, 1);
        k.rule(UNLIKE, 0, 0);
        for (int x = 0; x < 4; x++) {
            k.part(0, x, 0, 0);
        }
        k.rule(RING, 0, 0);
        for (int x = 0; x < 5; x++) {
            k.part(1, x, 0, 0);
        }
        // 10 x 10 x 10 x 10 x 2, of the rule's and the line's
        int near = lineOf(k, 0, 6, IS_AT_MOST, 1, 0, IS_NOT, 3);
        due.is(NONE, k.check());
        int wrong = lineOf(k, 0, 0, IS_NOT, 3);
        int far = lineOf(k, 0, 6, IS_AT_MOST, 1, 5, IS_AT_MOST, 9);
        due.is(wrong, k.check());
        due.is(0, k.refutes());
        k.forge(wrong, 0, IS_AT_MOST, 9);
        due.is(FAR, k.check());
        due.is(FAR, k.refutes());
        k.stand(0, false);
        due.is(near, k.check());
        k.stand(0, true);
        for (int v = 1; v < 10; v++) {
            k.hole(5, v);
        }
        due.is(NONE, k.check());
        due.is(2, far);
        // the told ranges are what is counted, narrowed by nothing
        lineOf(k, 1, 0, IS_AT_MOST, 9);
        due.is(FAR, k.check());
        due.is(0, k.total(4));
    }

    private static void refutes() {
        due.about("promise 32: refutes");
        NarrowingKernel k = with(2, 0, 1);
        due.is(0, k.refutes());
        k.rule(UNLIKE, 0, 0);
        k.part(0, 0, 0, 0);
        k.part(0, 1, 0, 0);
        k.rule(SUM, NOT, 1);
        k.part(1, 0, 1, 0);
        k.part(1, 1, 1, 0);
        lineOf(k, 0, 0, IS_JUST, 0, 1, IS_JUST, 0);
        lineOf(k, 0, 0, IS_JUST, 1, 1, IS_JUST, 1);
        lineOf(k, 1, 0, IS_JUST, 0, 1, IS_JUST, 1);
        lineOf(k, 1, 0, IS_JUST, 1, 1, IS_JUST, 0);
        due.is(0, k.refutes());
        due.is(NONE, k.check());
        // narrowing alone does not come to it yet
        lineOf(k, NONE);
        due.is(4, k.check());
        due.is(0, k.refutes());
        k.says(4, 0, IS_JUST, 0);
        due.is(NONE, k.check());
        due.is(0, k.refutes());
        lineOf(k, NONE);
        due.is(NONE, k.check());
        due.is(1, k.refutes());
        k.forge(0, 0, IS_NOT, 0);
        due.is(0, k.refutes());
        k.forge(0, 0, IS_JUST, 0);
        due.is(1, k.refutes());
        k.stand(1, false);
        due.is(0, k.refutes());
        due.is(2, k.check());
        // a line after the empty one must be right, too
        k.stand(1, true);
        lineOf(k, NONE, 0, IS_JUST, 9);
        due.is(1, k.refutes());
        lineOf(k, 0, 0, IS_JUST, 0);
        due.is(0, k.refutes());
    }

    /** Three of six are 1: of any four literals that each is 0, and of any four that each is 1, one is so. */
    private static void brimful() {
        due.about("10 UNKNOWNS, 40 LINES of 6 LITERALS");
        NarrowingKernel k = with(10, 0, 1);
        k.rule(SUM, EXACTLY, 3);
        for (int x = 4; x < 10; x++) {
            k.part(0, x, 1, 0);
        }
        for (int l = 0; l < 39; l++) {
            int v = l % 2;
            due.is(l, lineOf(k, 0, 9, IS_JUST, v, 7, IS_JUST, v, 5, IS_JUST, v, 4, IS_JUST, v, 0, IS_JUST, 2, 1, IS_JUST, 3));
            due.is(NONE, k.check());
        }
        due.is(39, lineOf(k, NONE, 9, IS_JUST, 0, 7, IS_JUST, 0, 5, IS_JUST, 0, 4, IS_JUST, 0));
        due.is(NONE, k.check());
        due.is(1, k.forge(39, 3, IS_JUST, 1));
        due.is(39, k.check());
        due.is(1, k.forge(38, 3, IS_JUST, 1));
        due.is(38, k.check());
        due.is(0, k.refutes());
    }

    private static void total() {
        due.about("promise 33: total");
        NarrowingKernel k = with(3, 0, 5);
        due.is(BAD, k.total(-1));
        due.is(BAD, k.total(6));
        k.rule(SUM, AT_MOST, 3);
        k.rule(CLAUSE, 0, 0);
        k.stand(0, false);
        k.table(2, 0, 3);
        k.table(4, 0, 0);
        k.table(2, 1, 4);
        k.step(0, 0, 3);
        k.line(NONE);
        k.line(0);
        k.line(1);
        k.line(1);
        for (int i = 0; i < 6; i++) {
            k.get(2, -1);
        }
        due.is(3, k.total(0));
        due.is(2, k.total(1));
        due.is(1, k.total(2));
        due.is(4, k.total(3));
        due.is(6, k.total(4));
        due.is(2, k.total(5));
        k.undo(0);
        k.tear(2);
        due.is(0, k.total(2));
        due.is(1, k.total(5));
        // refusals are no findings
        k.get(6, 0);
        k.hole(9, 0);
        k.narrow();
        due.is(6, k.total(4));
    }

    public static void main(String[] args) {
        line();
        says();
        forge();
        linesFromRules();
        everyKind();
        linesFromLines();
        far();
        refutes();
        brimful();
        total();
        due.end();
    }
}
