/** Objects that stand ready for a call: each made anew, by the same calls. */
final class Worlds {
    static final int SUM = 0, UNLIKE = 1, TABLE = 2, LOAD = 3, RING = 4, CLAUSE = 5;
    static final int AT_MOST = 0, EXACTLY = 1, NOT = 2;
    static final int IS_AT_MOST = 0, IS_AT_LEAST = 1, IS_NOT = 2, IS_JUST = 3;

    private Worlds() {
    }

    /** So many UNKNOWNS of one RANGE. */
    static NarrowingKernel with(int unknowns, int least, int greatest) {
        NarrowingKernel k = new NarrowingKernel();
        for (int x = 0; x < unknowns; x++) {
            k.unknown(least, greatest);
        }
        return k;
    }

    /** A RULE, whose PARTS are the UNKNOWNS from 0 on; the amounts are multiples or lengths. */
    static int ruleOf(NarrowingKernel k, int kind, int a, int b, int need, int... amounts) {
        int r = k.rule(kind, a, b);
        for (int x = 0; x < amounts.length; x++) {
            k.part(r, x, amounts[x], need);
        }
        return r;
    }

    /** A CLAUSE of LITERALS, told as x, sort, v, one behind the other. */
    static int clauseOf(NarrowingKernel k, int... literals) {
        int r = k.rule(CLAUSE, 0, 0);
        for (int i = 0; i + 2 < literals.length; i += 3) {
            k.literal(r, literals[i], literals[i + 1], literals[i + 2]);
        }
        return r;
    }

    /** A LINE from RULE r (NONE: from LINES) of LITERALS. */
    static int lineOf(NarrowingKernel k, int r, int... literals) {
        int l = k.line(r);
        for (int i = 0; i + 2 < literals.length; i += 3) {
            k.says(l, literals[i], literals[i + 1], literals[i + 2]);
        }
        return l;
    }

    static void tableOf(NarrowingKernel k, int t, int... cells) {
        k.table(t, t % 3, cells.length);
        for (int i = 0; i < cells.length; i++) {
            k.cell(t, i, cells[i]);
        }
    }

    static NarrowingKernel empty() {
        return new NarrowingKernel();
    }

    /**
     * RULES 0 .. 5 of each kind (the RING is taken out), TABLES 0 and 3, LINES 0 and 1, a reason (STEP
     * 1), 2 FINDINGS; no STEPS, no ANSWER told, and nothing narrowed.
     */
    static NarrowingKernel wide() {
        NarrowingKernel k = new NarrowingKernel();
        k.unknown(0, 5);
        k.unknown(2, 7);
        k.hole(1, 4);
        k.unknown(0, 3);
        tableOf(k, 0, 0, 2, 3, 3);
        tableOf(k, 3, 7, 8);
        ruleOf(k, SUM, AT_MOST, 6, 0, 1, 1);
        k.rule(UNLIKE, 0, 0);
        k.part(1, 0, 0, 0);
        k.part(1, 2, 0, 0);
        k.rule(TABLE, 0, 0);
        k.part(2, 2, 0, 0);
        k.rule(LOAD, 3, 0);
        k.part(3, 0, 2, 2);
        k.part(3, 1, 1, 2);
        k.rule(RING, 0, 0);
        k.part(4, 2, 0, 0);
        k.stand(4, false);
        clauseOf(k, 0, IS_AT_LEAST, 1, 2, IS_NOT, 0);
        lineOf(k, 5, 0, IS_AT_LEAST, 1, 2, IS_NOT, 0);
        lineOf(k, NarrowingKernel.NONE, 0, IS_AT_MOST, 2, 0, IS_AT_LEAST, 3, 1, IS_JUST, 2);
        k.get(5, 0);
        k.get(0, 4);
        k.step(2, IS_NOT, 0);
        k.step(0, IS_AT_LEAST, 3);
        k.why(1, 6);
        k.undo(0);
        return k;
    }

    /** The same with two STEPS, and still nothing narrowed. */
    static NarrowingKernel wideStepped() {
        NarrowingKernel k = wide();
        k.step(1, IS_NOT, 7);
        k.step(2, IS_AT_LEAST, 1);
        return k;
    }

    /** The same without STEPS, but narrowed, so that no RANGE is as TOLD; THE ANSWER is 1, 3, 0. */
    static NarrowingKernel ordinary() {
        NarrowingKernel k = wide();
        k.narrow();
        k.best(2, false);
        return k;
    }

    /** The same with three STEPS, narrowed after each. */
    static NarrowingKernel stepped() {
        NarrowingKernel k = ordinary();
        k.step(2, IS_AT_LEAST, 2);
        k.narrow();
        k.step(0, IS_NOT, 1);
        k.narrow();
        k.step(1, IS_NOT, 3);
        k.narrow();
        return k;
    }

    /** The same, but that an empty CLAUSE stands; THE ANSWER is still told. */
    static NarrowingKernel dead() {
        NarrowingKernel k = ordinary();
        k.rule(CLAUSE, 0, 0);
        return k;
    }

    /** 10 UNKNOWNS, 16 RULES (0 a SUM of 6 PARTS, 1 a CLAUSE of 6 LITERALS), 40 LINES (0 of 6 LITERALS). */
    static NarrowingKernel full() {
        NarrowingKernel k = with(10, 0, 1);
        ruleOf(k, SUM, AT_MOST, 3, 0, 1, 1, 1, 1, 1, 1);
        clauseOf(k, 0, IS_JUST, 1, 1, IS_JUST, 1, 2, IS_JUST, 1, 3, IS_JUST, 1, 4, IS_JUST, 1, 5, IS_JUST, 1);
        for (int r = 2; r < 16; r++) {
            k.rule(r == 2 ? TABLE : UNLIKE, 0, 0);
        }
        k.stand(2, false);
        lineOf(k, 1, 0, IS_JUST, 1, 1, IS_JUST, 1, 2, IS_JUST, 1, 3, IS_JUST, 1, 4, IS_JUST, 1, 5, IS_JUST, 1);
        for (int l = 1; l < 40; l++) {
            k.line(1);
        }
        return k;
    }

    /** The same with 12 STEPS. */
    static NarrowingKernel brimming() {
        NarrowingKernel k = full();
        for (int d = 0; d < 12; d++) {
            k.step(9 - d % 2, IS_JUST, 1);
        }
        return k;
    }

    /** 20020 ways, TOLD and narrowed; THE ANSWER is of the time when there were 5 of them. */
    static NarrowingKernel far() {
        NarrowingKernel k = new NarrowingKernel();
        k.unknown(0, 3);
        k.unknown(0, 4);
        k.unknown(0, 6);
        k.unknown(0, 10);
        k.unknown(0, 12);
        int r = k.rule(SUM, AT_MOST, 0);
        k.part(r, 0, 1, 0);
        k.part(r, 2, 1, 0);
        k.part(r, 3, 1, 0);
        k.part(r, 4, 1, 0);
        k.best(1, true);
        k.stand(r, false);
        return k;
    }
}
