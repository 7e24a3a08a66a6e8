/** Promises 1 to 13: a new object, and what is told. */
public final class ToldTest {
    private static final int UNKNOWN = -1, BAD = -2, STATE = -3, FULL = -4, NONE = -9;
    private static final int NULL = -11, PLACE = -12, CAST = -13, SIZE = -14;
    private static final int SUM = 0, UNLIKE = 1, TABLE = 2, LOAD = 3, RING = 4, CLAUSE = 5;
    private static final int LEAST = Integer.MIN_VALUE, MOST = Integer.MAX_VALUE;
    private static final Due due = new Due("ToldTest");

    private static void newObject() {
        due.about("promise 1");
        NarrowingKernel k = new NarrowingKernel();
        for (int what = 0; what <= 5; what++) {
            due.is(0, k.total(what));
        }
        due.is(UNKNOWN, k.range(0, 0));
        due.is(UNKNOWN, k.takes(0));
        due.is(UNKNOWN, k.forge(0, 0, 0, 0));
        due.is(NULL, k.get(0, 0));
        due.is(NULL, k.get(5, 0));
        due.is(2, k.total(4));
        due.is(0, k.narrow());
        due.is(STATE, k.next());
        due.is(1, k.solve());
        due.is(1, k.count(20000));
        due.is(0, k.next());
        due.is(NONE, k.core());
        due.is(NONE, k.reason(0));
        due.is(NONE, k.check());
        due.is(0, k.refutes());
        due.is(0, k.undo(0));
    }

    private static void unknown() {
        due.about("promise 2: unknown");
        NarrowingKernel k = new NarrowingKernel();
        due.is(BAD, k.unknown(-1, 3));
        due.is(BAD, k.unknown(0, 16));
        due.is(BAD, k.unknown(16, 16));
        due.is(BAD, k.unknown(4, 3));
        due.is(BAD, k.unknown(LEAST, MOST));
        due.is(BAD, k.unknown(-1, -1));
        due.is(0, k.total(0));
        due.is(0, k.unknown(0, 15));
        due.is(0xFFFF, k.range(0, 3));
        due.is(0xFFFF, k.range(0, 4));
        due.is(1, k.unknown(15, 15));
        due.is(0x8000, k.range(1, 3));
        due.is(2, k.unknown(3, 5));
        due.is(0x38, k.range(2, 4));
        for (int x = 3; x < 10; x++) {
            due.is(x, k.unknown(0, 0));
        }
        due.is(FULL, k.unknown(0, 0));
        due.is(BAD, k.unknown(1, 0));
        due.is(10, k.total(0));
        due.is(0, k.step(0, 0, 9));
        due.is(STATE, k.unknown(0, 0));
        due.is(BAD, k.unknown(1, 0));
    }

    private static void hole() {
        due.about("promise 3: hole");
        NarrowingKernel k = new NarrowingKernel();
        due.is(UNKNOWN, k.hole(0, 16));
        k.unknown(3, 5);
        due.is(UNKNOWN, k.hole(1, 4));
        due.is(UNKNOWN, k.hole(-1, 4));
        due.is(BAD, k.hole(0, 16));
        due.is(BAD, k.hole(0, -1));
        due.is(STATE, k.hole(0, 2));
        due.is(2, k.hole(0, 4));
        due.is(0x28, k.range(0, 3));
        due.is(0x28, k.range(0, 4));
        due.is(STATE, k.hole(0, 4));
        due.is(1, k.hole(0, 3));
        due.is(STATE, k.hole(0, 5));
        due.is(STATE, k.hole(0, 3));
        k.unknown(0, 3);
        k.step(1, 0, 2);
        due.is(STATE, k.hole(1, 0));
        due.is(BAD, k.hole(1, 16));
        k.undo(0);
        due.is(3, k.hole(1, 0));
    }

    private static void rule() {
        due.about("promise 4: rule");
        NarrowingKernel k = new NarrowingKernel();
        due.is(BAD, k.rule(-1, 0, 0));
        due.is(BAD, k.rule(6, 0, 0));
        due.is(BAD, k.rule(SUM, -1, 0));
        due.is(BAD, k.rule(SUM, 3, 0));
        due.is(BAD, k.rule(SUM, 0, 1001));
        due.is(BAD, k.rule(SUM, 0, -1001));
        due.is(BAD, k.rule(TABLE, -1, 0));
        due.is(BAD, k.rule(TABLE, 6, 0));
        due.is(BAD, k.rule(LOAD, -1, 0));
        due.is(BAD, k.rule(LOAD, 101, 0));
        due.is(0, k.rule(SUM, 2, 1000));
        due.is(1, k.rule(SUM, 0, -1000));
        due.is(2, k.rule(UNLIKE, LEAST, MOST));
        due.is(3, k.rule(TABLE, 5, LEAST));
        due.is(4, k.rule(LOAD, 100, MOST));
        due.is(5, k.rule(RING, -5, 2000));
        due.is(6, k.rule(CLAUSE, 99, -7000));
        for (int r = 7; r < 16; r++) {
            due.is(r, k.rule(UNLIKE, 0, 0));
        }
        due.is(FULL, k.rule(UNLIKE, 0, 0));
        due.is(BAD, k.rule(SUM, 3, 0));
        due.is(16, k.total(1));
        k.unknown(0, 1);
        k.step(0, 0, 1);
        due.is(STATE, k.rule(UNLIKE, 0, 0));
        due.is(BAD, k.rule(7, 0, 0));
    }

    private static void part() {
        due.about("promise 5: part");
        NarrowingKernel k = new NarrowingKernel();
        for (int x = 0; x < 8; x++) {
            k.unknown(0, 1);
        }
        due.is(UNKNOWN, k.part(0, 0, 1, 1));
        k.rule(SUM, 0, 5);
        k.rule(LOAD, 5, 0);
        k.rule(CLAUSE, 0, 0);
        k.rule(RING, 0, 0);
        due.is(UNKNOWN, k.part(4, 0, 1, 1));
        due.is(UNKNOWN, k.part(-1, 0, 1, 1));
        due.is(UNKNOWN, k.part(0, 8, 1, 1));
        due.is(UNKNOWN, k.part(2, -1, 1, 1));
        due.is(0, k.total(4));
        due.is(CAST, k.part(2, 0, 1, 1));
        due.is(1, k.total(4));
        due.is(BAD, k.part(0, 0, 0, 0));
        due.is(BAD, k.part(0, 0, 10, 0));
        due.is(BAD, k.part(0, 0, -10, 0));
        due.is(1, k.part(0, 0, -9, MOST));
        due.is(2, k.part(0, 1, 9, LEAST));
        due.is(BAD, k.part(1, 0, -1, 0));
        due.is(BAD, k.part(1, 0, 16, 0));
        due.is(BAD, k.part(1, 0, 0, -1));
        due.is(BAD, k.part(1, 0, 0, 21));
        due.is(1, k.part(1, 0, 15, 20));
        due.is(2, k.part(1, 1, 0, 0));
        due.is(BAD, k.part(1, 1, 16, 0));
        due.is(STATE, k.part(1, 1, 0, 0));
        for (int x = 0; x < 6; x++) {
            due.is(x + 1, k.part(3, x, LEAST, MOST));
        }
        due.is(FULL, k.part(3, 6, 0, 0));
        due.is(STATE, k.part(3, 5, 0, 0));
        k.stand(3, false);
        k.step(0, 0, 1);
        due.is(STATE, k.part(3, 6, 0, 0));
        due.is(STATE, k.part(0, 6, 1, 0));
        due.is(BAD, k.part(0, 6, 0, 0));
        due.is(CAST, k.part(2, 6, 0, 0));
        due.is(2, k.total(4));
    }

    private static void literal() {
        due.about("promise 6: literal");
        NarrowingKernel k = new NarrowingKernel();
        k.unknown(0, 5);
        due.is(UNKNOWN, k.literal(0, 0, 0, 0));
        k.rule(CLAUSE, 0, 0);
        k.rule(SUM, 0, 0);
        due.is(UNKNOWN, k.literal(2, 0, 0, 0));
        due.is(UNKNOWN, k.literal(-1, 0, 0, 0));
        due.is(UNKNOWN, k.literal(0, 1, 9, 99));
        due.is(UNKNOWN, k.literal(1, -1, 0, 0));
        due.is(CAST, k.literal(1, 0, 9, 99));
        due.is(1, k.total(4));
        due.is(BAD, k.literal(0, 0, -1, 0));
        due.is(BAD, k.literal(0, 0, 4, 0));
        due.is(BAD, k.literal(0, 0, 0, -1));
        due.is(BAD, k.literal(0, 0, 0, 16));
        for (int n = 1; n <= 6; n++) {
            due.is(n, k.literal(0, 0, 3, 15));
        }
        due.is(FULL, k.literal(0, 0, 3, 15));
        due.is(BAD, k.literal(0, 0, 4, 15));
        k.step(0, 0, 3);
        due.is(STATE, k.literal(0, 0, 3, 15));
        due.is(CAST, k.literal(1, 0, 3, 15));
        due.is(2, k.total(4));
    }

    private static void stand() {
        due.about("promise 7: stand");
        NarrowingKernel k = new NarrowingKernel();
        k.unknown(0, 5);
        due.is(UNKNOWN, k.stand(0, true));
        k.rule(CLAUSE, 0, 0);
        due.is(UNKNOWN, k.stand(1, true));
        due.is(UNKNOWN, k.stand(-1, false));
        due.is(1, k.stand(0, true));
        due.is(STATE, k.narrow());
        due.is(1, k.stand(0, false));
        due.is(0, k.narrow());
        due.is(0, k.stand(0, false));
        due.is(0, k.stand(0, true));
        due.is(1, k.stand(0, true));
        k.step(0, 0, 3);
        due.is(STATE, k.stand(0, false));
        due.is(UNKNOWN, k.stand(1, false));
        due.is(STATE, k.narrow());
    }

    private static void table() {
        due.about("promise 8: table");
        NarrowingKernel k = new NarrowingKernel();
        due.is(BAD, k.table(-1, 0, 0));
        due.is(BAD, k.table(6, 0, 0));
        due.is(BAD, k.table(0, -1, 0));
        due.is(BAD, k.table(0, 3, 0));
        due.is(BAD, k.table(0, 0, 49));
        due.is(BAD, k.table(0, 3, -1));
        due.is(SIZE, k.table(0, 0, -1));
        due.is(SIZE, k.table(0, 2, LEAST));
        due.is(2, k.total(4));
        due.is(0, k.total(5));
        due.is(48, k.table(0, 0, 48));
        due.is(0, k.get(0, 47));
        due.is(0, k.table(5, 1, 0));
        due.is(2, k.total(5));
        k.cell(0, 47, 9);
        due.is(SIZE, k.table(0, 1, -5));
        due.is(9, k.get(0, 47));
        due.is(48, k.table(0, 2, 48));
        due.is(0, k.get(0, 47));
        k.unknown(0, 1);
        k.step(0, 0, 0);
        due.is(STATE, k.table(0, 0, 3));
        due.is(STATE, k.table(0, 0, -1));
        due.is(BAD, k.table(0, 0, 49));
        due.is(3, k.total(4));
    }

    private static void tear() {
        due.about("promise 9: tear");
        NarrowingKernel k = new NarrowingKernel();
        due.is(BAD, k.tear(-1));
        due.is(BAD, k.tear(6));
        due.is(1, k.tear(5));
        k.table(5, 0, 0);
        due.is(0, k.tear(5));
        due.is(1, k.tear(5));
        due.is(0, k.total(5));
        due.is(NULL, k.get(5, 0));
        k.table(5, 0, 3);
        k.unknown(0, 1);
        k.step(0, 0, 0);
        due.is(STATE, k.tear(5));
        due.is(BAD, k.tear(6));
        due.is(0, k.get(5, 2));
    }

    private static void cell() {
        due.about("promise 10: cell");
        NarrowingKernel k = new NarrowingKernel();
        due.is(BAD, k.cell(-1, 0, 0));
        due.is(BAD, k.cell(6, 0, 0));
        due.is(BAD, k.cell(0, 0, 16));
        due.is(BAD, k.cell(0, 0, -1));
        due.is(NULL, k.cell(0, -1, 0));
        k.table(0, 0, 3);
        due.is(PLACE, k.cell(0, 3, 0));
        due.is(PLACE, k.cell(0, -1, 0));
        due.is(PLACE, k.cell(0, MOST, 0));
        due.is(PLACE, k.cell(0, LEAST, 0));
        due.is(5, k.total(4));
        due.is(1, k.cell(0, 2, 15));
        due.is(15, k.get(0, 2));
        due.is(0, k.get(0, 1));
        due.is(1, k.cell(0, 2, 0));
        due.is(0, k.get(0, 2));
        k.unknown(0, 1);
        k.step(0, 0, 0);
        due.is(STATE, k.cell(0, 9, 1));
        due.is(STATE, k.cell(1, 0, 1));
        due.is(BAD, k.cell(1, 0, 16));
        due.is(5, k.total(4));
    }

    private static void copy() {
        due.about("promise 11: copy");
        NarrowingKernel k = new NarrowingKernel();
        due.is(BAD, k.copy(-1, 0, 0, 0, 0));
        due.is(BAD, k.copy(0, 0, 6, 0, 0));
        due.is(BAD, k.copy(0, 0, 0, 0, -1));
        k.table(0, 0, 5);
        due.is(NULL, k.copy(0, 9, 1, 0, 1));
        due.is(NULL, k.copy(1, 0, 0, 0, 1));
        due.is(2, k.total(4));
        for (int i = 0; i < 5; i++) {
            k.cell(0, i, i + 1);
        }
        k.table(1, 2, 4);
        due.is(3, k.copy(0, 2, 1, 1, 3));
        due.is(0, k.get(1, 0));
        due.is(3, k.get(1, 1));
        due.is(4, k.get(1, 2));
        due.is(5, k.get(1, 3));
        due.is(PLACE, k.copy(0, 2, 1, 0, 4));
        due.is(PLACE, k.copy(0, 0, 1, 0, 5));
        due.is(PLACE, k.copy(0, -1, 1, 0, 1));
        due.is(PLACE, k.copy(0, 0, 1, -1, 1));
        due.is(PLACE, k.copy(0, 1, 1, 0, MOST));
        due.is(PLACE, k.copy(0, MOST, 1, 0, MOST));
        due.is(PLACE, k.copy(0, 0, 1, MOST, 1));
        due.is(PLACE, k.copy(0, 6, 1, 0, 0));
        due.is(PLACE, k.copy(0, 0, 1, 5, 0));
        due.is(0, k.copy(0, 5, 1, 4, 0));
        due.is(0, k.get(1, 0));
        due.is(11, k.total(4));
        // cells that overlap come as they were ahead, whichever way
        due.is(4, k.copy(0, 0, 0, 1, 4));
        int[] up = {1, 1, 2, 3, 4};
        for (int i = 0; i < 5; i++) {
            due.is(up[i], k.get(0, i));
        }
        due.is(3, k.copy(0, 2, 0, 0, 3));
        int[] down = {2, 3, 4, 3, 4};
        for (int i = 0; i < 5; i++) {
            due.is(down[i], k.get(0, i));
        }
        k.unknown(0, 1);
        k.step(0, 0, 0);
        due.is(STATE, k.copy(0, 9, 1, 0, 1));
        due.is(STATE, k.copy(0, 0, 2, 0, 1));
        due.is(BAD, k.copy(0, 0, 1, 0, -1));
        due.is(11, k.total(4));
    }

    private static void get() {
        due.about("promise 12: get");
        NarrowingKernel k = new NarrowingKernel();
        due.is(BAD, k.get(-1, 0));
        due.is(BAD, k.get(6, 0));
        due.is(NULL, k.get(0, -1));
        k.table(0, 1, 2);
        due.is(PLACE, k.get(0, 2));
        due.is(PLACE, k.get(0, -1));
        due.is(PLACE, k.get(0, MOST));
        due.is(4, k.total(4));
        k.cell(0, 1, 7);
        k.unknown(0, 3);
        k.step(0, 0, 2);
        due.is(7, k.get(0, 1));
        due.is(0, k.get(0, 0));
        due.is(7, k.range(0, 3));
    }

    private static void about() {
        due.about("promise 13: about");
        NarrowingKernel k = new NarrowingKernel();
        due.is(UNKNOWN, k.about(0, 3));
        k.rule(SUM, 1, -13);
        k.rule(LOAD, 42, 0);
        k.rule(TABLE, 4, 0);
        k.rule(UNLIKE, 3, 3);
        due.is(UNKNOWN, k.about(4, 0));
        due.is(UNKNOWN, k.about(-1, 0));
        due.is(BAD, k.about(0, 3));
        due.is(BAD, k.about(3, -1));
        due.is(-13, k.about(0, 0));
        due.is(0, k.total(4));
        due.is(42, k.about(1, 1));
        due.is(4, k.about(2, 2));
        due.is(CAST, k.about(0, 1));
        due.is(CAST, k.about(0, 2));
        due.is(CAST, k.about(1, 0));
        due.is(CAST, k.about(1, 2));
        due.is(CAST, k.about(2, 0));
        due.is(CAST, k.about(2, 1));
        due.is(CAST, k.about(3, 0));
        due.is(7, k.total(4));
        k.unknown(0, 3);
        k.step(0, 0, 2);
        due.is(42, k.about(1, 1));
        due.is(7, k.range(0, 3));
    }

    /** Unknown 0 (0 .. 3) is narrowed to 0 .. 1 by rule 0; table 0 has 3 cells, table 1 none. */
    private static NarrowingKernel narrowed() {
        NarrowingKernel k = new NarrowingKernel();
        k.unknown(0, 3);
        k.rule(SUM, 0, 1);
        k.part(0, 0, 1, 0);
        k.rule(CLAUSE, 0, 0);
        k.stand(1, false);
        k.table(0, 0, 3);
        due.is(2, k.narrow());
        due.is(3, k.range(0, 3));
        return k;
    }

    private static void letsRangesBeAsTold() {
        due.about("section 4's calls let all RANGES be as TOLD");
        for (int call = 0; call < 12; call++) {
            NarrowingKernel k = narrowed();
            int told = 15;
            switch (call) {
                case 0: due.is(1, k.unknown(0, 0)); break;
                case 1: due.is(3, k.hole(0, 0)); told = 14; break;
                case 2: due.is(2, k.rule(CLAUSE, 0, 0)); break;
                case 3: k.rule(UNLIKE, 0, 0); k.narrow(); due.is(1, k.part(2, 0, 0, 0)); break;
                case 4: due.is(1, k.literal(1, 0, 0, 0)); break;
                case 5: due.is(1, k.stand(0, false)); break;
                case 6: due.is(0, k.table(1, 0, 0)); break;
                case 7: due.is(0, k.tear(0)); break;
                case 8: due.is(1, k.cell(0, 0, 0)); break;
                case 9: due.is(1, k.copy(0, 0, 0, 0, 1)); break;
                case 10: due.is(0, k.get(0, 0)); told = 3; break;
                default: due.is(1, k.about(0, 0)); told = 3; break;
            }
            due.is(told, k.range(0, 3));
        }
    }

    private static void refusedChangesNothing() {
        due.about("what is refused or found changes nothing but counts");
        NarrowingKernel k = narrowed();
        due.is(BAD, k.unknown(3, 2));
        due.is(BAD, k.hole(0, 16));
        due.is(BAD, k.rule(6, 0, 0));
        due.is(STATE, k.part(0, 0, 1, 0));
        due.is(BAD, k.part(0, 0, 0, 0));
        due.is(CAST, k.part(1, 0, 0, 0));
        due.is(CAST, k.literal(0, 0, 0, 0));
        due.is(UNKNOWN, k.stand(2, true));
        due.is(SIZE, k.table(0, 0, -1));
        due.is(BAD, k.tear(6));
        due.is(PLACE, k.cell(0, 3, 1));
        due.is(NULL, k.copy(0, 0, 1, 0, 1));
        due.is(PLACE, k.copy(0, 0, 0, 3, 1));
        due.is(3, k.range(0, 3));
        due.is(6, k.total(4));
        due.is(1, k.total(0));
        due.is(2, k.total(1));
        due.is(1, k.total(5));
    }

    public static void main(String[] args) {
        newObject();
        unknown();
        hole();
        rule();
        part();
        literal();
        stand();
        table();
        tear();
        cell();
        copy();
        get();
        about();
        letsRangesBeAsTold();
        refusedChangesNothing();
        due.end();
    }
}
