import java.util.function.Supplier;

/**
 * Each int that a call takes, at the ends of int, and where bits that are shifted or cut off would make
 * it another one: refused as just beside what may be, or let alone where the document does not look.
 */
public final class EndsOfIntTest {
    private static final int UNKNOWN = -1, BAD = -2, STATE = -3, NONE = -9;
    private static final int PLACE = -12, CAST = -13, SIZE = -14;
    private static final int SUM = 0, UNLIKE = 1, TABLE = 2, LOAD = 3, RING = 4, CLAUSE = 5;
    private static final int[] ENDS = {Integer.MIN_VALUE, Integer.MIN_VALUE + 1, Integer.MAX_VALUE, Integer.MAX_VALUE - 1};
    /** 1 << 32 is 1 << 0; the low bits of the others are those of small numbers. */
    private static final int[] ROUND = {-64, -32, -31, -16, 32, 33, 63, 64, 128, 256, -256, 1 << 16, -(1 << 16), 1 << 24, 1 << 30};
    private static final Due due = new Due("EndsOfIntTest");

    private interface IntCall {
        int on(NarrowingKernel k, int end);
    }

    /** Below 0 and above 0, both at the ends and at what goes round. */
    private static void refused(Supplier<NarrowingKernel> world, int below, int above, IntCall call) {
        for (int end : ENDS) {
            due.refused(world, end < 0 ? below : above, k -> call.on(k, end));
        }
        for (int end : ROUND) {
            due.is(end < 0 ? below : above, call.on(world.get(), end));
        }
    }

    private static void refused(Supplier<NarrowingKernel> world, int want, IntCall call) {
        refused(world, want, want, call);
    }

    private static void taken(Supplier<NarrowingKernel> world, int want, IntCall call) {
        for (int end : ENDS) {
            due.is(want, call.on(world.get(), end));
        }
        for (int end : ROUND) {
            due.is(want, call.on(world.get(), end));
        }
    }

    private static void told(Supplier<NarrowingKernel> world) {
        due.about("2: unknown");
        refused(world, BAD, (k, e) -> k.unknown(e, 15));
        refused(world, BAD, (k, e) -> k.unknown(0, e));
        refused(world, BAD, (k, e) -> k.unknown(e, e));
        due.about("3: hole");
        refused(world, UNKNOWN, (k, e) -> k.hole(e, 0));
        refused(world, BAD, (k, e) -> k.hole(0, e));
        due.about("4: rule");
        refused(world, BAD, (k, e) -> k.rule(e, 0, 0));
        refused(world, BAD, (k, e) -> k.rule(SUM, e, 0));
        refused(world, BAD, (k, e) -> k.rule(TABLE, e, 0));
        refused(world, BAD, (k, e) -> k.rule(LOAD, e < 0 ? e : Math.max(e, 101), 0));
        due.about("5: part");
        refused(world, UNKNOWN, (k, e) -> k.part(e, 0, 1, 1));
        refused(world, UNKNOWN, (k, e) -> k.part(0, e, 1, 1));
        refused(world, BAD, (k, e) -> k.part(0, 2, e, 0));
        refused(world, BAD, (k, e) -> k.part(3, 2, e, 0));
        refused(world, BAD, (k, e) -> k.part(3, 2, 0, e));
        due.about("6: literal");
        refused(world, UNKNOWN, (k, e) -> k.literal(e, 0, 0, 0));
        refused(world, UNKNOWN, (k, e) -> k.literal(5, e, 0, 0));
        refused(world, BAD, (k, e) -> k.literal(5, 0, e, 0));
        refused(world, BAD, (k, e) -> k.literal(5, 0, 0, e));
        due.about("7: stand");
        refused(world, UNKNOWN, (k, e) -> k.stand(e, true));
        refused(world, UNKNOWN, (k, e) -> k.stand(e, false));
        due.about("8: table");
        refused(world, BAD, (k, e) -> k.table(e, 0, 4));
        refused(world, BAD, (k, e) -> k.table(0, e, 4));
        due.about("9: tear");
        refused(world, BAD, (k, e) -> k.tear(e));
        due.about("10: cell");
        refused(world, BAD, (k, e) -> k.cell(e, 0, 0));
        refused(world, BAD, (k, e) -> k.cell(0, 0, e));
        due.about("11: copy");
        refused(world, BAD, (k, e) -> k.copy(e, 0, 0, 0, 1));
        refused(world, BAD, (k, e) -> k.copy(0, 0, e, 0, 1));
        due.about("12: get");
        refused(world, BAD, (k, e) -> k.get(e, 0));
        refused(world, PLACE, (k, e) -> k.get(0, e));
        due.about("13: about");
        refused(world, UNKNOWN, (k, e) -> k.about(e, 0));
        refused(world, BAD, (k, e) -> k.about(0, e));
    }

    private static void found() {
        due.about("8: table: n below 0, above 48");
        refused(Worlds::ordinary, SIZE, BAD, (k, e) -> k.table(0, 0, e < 0 ? e : Math.max(e, 49)));
        due.about("10: cell: i");
        refused(Worlds::ordinary, PLACE, (k, e) -> k.cell(0, e, 0));
        due.about("11: copy: i, j, n");
        refused(Worlds::ordinary, PLACE, (k, e) -> k.copy(0, e, 3, 0, 1));
        refused(Worlds::ordinary, PLACE, (k, e) -> k.copy(0, 0, 3, e, 1));
        refused(Worlds::ordinary, BAD, PLACE, (k, e) -> k.copy(0, 0, 3, 0, e));
        refused(Worlds::ordinary, BAD, PLACE, (k, e) -> k.copy(0, 3, 3, 1, e));
        refused(Worlds::ordinary, BAD, PLACE, (k, e) -> k.copy(0, e, 3, e, e));
        due.about("4: rule: the bound");
        refused(Worlds::ordinary, BAD, (k, e) -> k.rule(SUM, 0, e < 0 ? Math.min(e, -1001) : Math.max(e, 1001)));
        due.about("10, 11: STATE is told ahead of PLACE");
        refused(Worlds::stepped, STATE, (k, e) -> k.cell(0, e, 0));
        refused(Worlds::stepped, STATE, (k, e) -> k.copy(0, e, 3, e, 1));
    }

    private static void notLookedAt() {
        due.about("4: of others a, b are not looked at");
        taken(Worlds::ordinary, 6, (k, e) -> k.rule(UNLIKE, e, e));
        taken(Worlds::ordinary, 6, (k, e) -> k.rule(RING, e, -e));
        taken(Worlds::ordinary, 6, (k, e) -> k.rule(CLAUSE, -e, e));
        taken(Worlds::ordinary, 6, (k, e) -> k.rule(TABLE, 5, e));
        taken(Worlds::ordinary, 6, (k, e) -> k.rule(LOAD, 100, e));
        due.about("5: others: not looked at");
        taken(Worlds::ordinary, 3, (k, e) -> k.part(0, 2, 9, e));
        taken(Worlds::ordinary, 3, (k, e) -> k.part(1, 1, e, e));
        taken(Worlds::ordinary, 2, (k, e) -> k.part(2, 1, e, -e));
        taken(Worlds::ordinary, 2, (k, e) -> k.part(4, 1, -e, e));
        taken(Worlds::ordinary, CAST, (k, e) -> k.part(5, 1, e, e));
    }

    private static void narrowing(Supplier<NarrowingKernel> world) {
        due.about("15: takes");
        refused(world, UNKNOWN, (k, e) -> k.takes(e));
        due.about("16: step");
        refused(world, UNKNOWN, (k, e) -> k.step(e, 0, 0));
        refused(world, BAD, (k, e) -> k.step(0, e, 0));
        refused(world, BAD, (k, e) -> k.step(0, 0, e));
        refused(world, BAD, (k, e) -> k.step(0, 2, e));
        due.about("17: undo");
        refused(world, BAD, (k, e) -> k.undo(e));
        due.about("18: range");
        refused(world, UNKNOWN, (k, e) -> k.range(e, 0));
        refused(world, BAD, (k, e) -> k.range(0, e));
        due.about("19: why");
        refused(world, UNKNOWN, (k, e) -> k.why(e, 0));
        refused(world, BAD, (k, e) -> k.why(0, e));
        due.about("20: reason");
        refused(world, NONE, (k, e) -> k.reason(e));
    }

    private static void answers(Supplier<NarrowingKernel> world) {
        due.about("23: answer");
        refused(world, UNKNOWN, (k, e) -> k.answer(e));
        due.about("24: count");
        refused(world, BAD, (k, e) -> k.count(e < 0 ? e : Math.max(e, 20001)));
        due.about("25: best");
        refused(world, UNKNOWN, (k, e) -> k.best(e, false));
        refused(world, UNKNOWN, (k, e) -> k.best(e, true));
        due.about("26: has");
        refused(world, UNKNOWN, (k, e) -> k.has(e, 0, 0));
        refused(world, BAD, (k, e) -> k.has(0, e, 0));
        refused(world, BAD, (k, e) -> k.has(0, 0, e));
    }

    private static void proofs(Supplier<NarrowingKernel> world) {
        due.about("28: line");
        refused(world, UNKNOWN, (k, e) -> k.line(e));
        due.about("29: says");
        refused(world, UNKNOWN, (k, e) -> k.says(e < 0 ? e : Math.max(e, 40), 0, 0, 0));
        refused(world, UNKNOWN, (k, e) -> k.says(0, e, 0, 0));
        refused(world, BAD, (k, e) -> k.says(0, 0, e, 0));
        refused(world, BAD, (k, e) -> k.says(0, 0, 0, e));
        due.about("30: forge");
        refused(world, UNKNOWN, (k, e) -> k.forge(e < 0 ? e : Math.max(e, 40), 0, 0, 0));
        refused(world, UNKNOWN, (k, e) -> k.forge(0, e, 0, 0));
        refused(world, BAD, (k, e) -> k.forge(0, 0, e, 0));
        refused(world, BAD, (k, e) -> k.forge(0, 0, 0, e));
        due.about("33: total");
        refused(world, BAD, (k, e) -> k.total(e));
    }

    private static void newObject() {
        due.about("of a new object");
        taken(Worlds::empty, UNKNOWN, (k, e) -> k.hole(e, e));
        taken(Worlds::empty, UNKNOWN, (k, e) -> k.part(e, e, e, e));
        taken(Worlds::empty, UNKNOWN, (k, e) -> k.literal(e, e, e, e));
        taken(Worlds::empty, BAD, (k, e) -> k.table(e, e, e));
        taken(Worlds::empty, BAD, (k, e) -> k.copy(e, e, e, e, e));
        taken(Worlds::empty, UNKNOWN, (k, e) -> k.step(e, e, e));
        taken(Worlds::empty, BAD, (k, e) -> k.undo(e));
        taken(Worlds::empty, UNKNOWN, (k, e) -> k.why(e, e));
        taken(Worlds::empty, NONE, (k, e) -> k.reason(e));
        taken(Worlds::empty, UNKNOWN, (k, e) -> k.answer(e));
        taken(Worlds::empty, UNKNOWN, (k, e) -> k.has(e, e, e));
        taken(Worlds::empty, UNKNOWN, (k, e) -> k.line(e));
        taken(Worlds::empty, UNKNOWN, (k, e) -> k.says(e, e, e, e));
        taken(Worlds::empty, UNKNOWN, (k, e) -> k.forge(e, e, e, e));
    }

    public static void main(String[] args) {
        told(Worlds::ordinary);
        told(Worlds::stepped);
        found();
        notLookedAt();
        narrowing(Worlds::ordinary);
        narrowing(Worlds::stepped);
        answers(Worlds::ordinary);
        answers(Worlds::dead);
        proofs(Worlds::ordinary);
        proofs(Worlds::full);
        newObject();
        due.end();
    }
}
