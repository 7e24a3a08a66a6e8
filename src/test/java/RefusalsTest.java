import java.util.function.Supplier;
import java.util.function.ToIntFunction;

/**
 * Section 4: of several refusals and findings what is told first, and what is refused, found changes
 * nothing but counts. Each call is made on one of two objects that were told the same; then both are
 * asked all that can be asked.
 */
public final class RefusalsTest {
    private static final int UNKNOWN = -1, BAD = -2, STATE = -3, FULL = -4, FAR = -5, NONE = -9;
    private static final int NULL = -11, PLACE = -12, CAST = -13, SIZE = -14;
    private static final int SUM = 0, UNLIKE = 1, TABLE = 2, LOAD = 3, RING = 4, CLAUSE = 5;
    private static final Due due = new Due("RefusalsTest");

    private static final Supplier<NarrowingKernel> NEW = Worlds::empty;
    private static final Supplier<NarrowingKernel> ORDINARY = Worlds::ordinary;
    private static final Supplier<NarrowingKernel> STEPPED = Worlds::stepped;
    private static final Supplier<NarrowingKernel> WIDE = Worlds::wide;
    private static final Supplier<NarrowingKernel> WIDE_STEPPED = Worlds::wideStepped;
    private static final Supplier<NarrowingKernel> DEAD = Worlds::dead;
    private static final Supplier<NarrowingKernel> FULL_ONE = Worlds::full;
    private static final Supplier<NarrowingKernel> BRIMMING = Worlds::brimming;
    private static final Supplier<NarrowingKernel> FAR_ONE = Worlds::far;

    private static void is(Supplier<NarrowingKernel> world, int want, ToIntFunction<NarrowingKernel> call) {
        due.refused(world, want, call);
    }

    private static void stays(Supplier<NarrowingKernel> world, int want, ToIntFunction<NarrowingKernel> call) {
        due.lets(world, want, call);
    }

    /** The worlds are what their words say: else the tests below would ask little. */
    private static void worlds() {
        due.about("the worlds");
        NarrowingKernel k = Worlds.ordinary();
        due.ranges(k, 0x1F, 0x6C, 0xD);
        due.is(0x3F, k.range(0, 4));
        due.is(0xEC, k.range(1, 4));
        due.is(0xF, k.range(2, 4));
        due.answers(k, 1, 3, 0);
        due.reasons(k, 1);
        due.is(2, k.total(3));
        due.is(2, k.total(4));
        due.is(2, k.total(5));
        due.is(NONE, k.check());
        k = Worlds.wide();
        due.ranges(k, 0x3F, 0xEC, 0xF);
        due.answers(k, STATE, STATE, STATE);
        due.reasons(k, 1);
        due.is(3, k.narrow());
        k = Worlds.wideStepped();
        due.ranges(k, 0x3F, 0x6C, 0xE);
        due.is(2, k.narrow());
        k = Worlds.stepped();
        due.is(3, k.total(2));
        due.ranges(k, 0x1D, 0x64, 0xC);
        k = Worlds.dead();
        due.is(STATE, k.narrow());
        due.answers(k, 1, 3, 0);
        k = Worlds.full();
        due.is(10, k.total(0));
        due.is(16, k.total(1));
        due.is(40, k.total(3));
        due.is(1, k.check());
        due.is(12, Worlds.brimming().total(2));
        k = Worlds.far();
        due.is(FAR, k.solve());
        due.answers(k, 0, 4, 0, 0, 0);
    }

    private static void unknown() {
        due.about("2: BAD; STATE; FULL");
        is(NEW, BAD, k -> k.unknown(-1, 3));
        is(ORDINARY, BAD, k -> k.unknown(3, 2));
        is(STEPPED, BAD, k -> k.unknown(0, 16));
        is(FULL_ONE, BAD, k -> k.unknown(16, 16));
        is(BRIMMING, BAD, k -> k.unknown(-1, -1));
        is(STEPPED, STATE, k -> k.unknown(0, 15));
        is(BRIMMING, STATE, k -> k.unknown(0, 15));
        is(FULL_ONE, FULL, k -> k.unknown(0, 15));
    }

    private static void hole() {
        due.about("3: UNKNOWN; BAD: v; STATE");
        is(NEW, UNKNOWN, k -> k.hole(0, 0));
        is(ORDINARY, UNKNOWN, k -> k.hole(3, 16));
        is(STEPPED, UNKNOWN, k -> k.hole(-1, 0));
        is(STEPPED, UNKNOWN, k -> k.hole(3, -1));
        is(ORDINARY, BAD, k -> k.hole(0, 16));
        is(STEPPED, BAD, k -> k.hole(0, -1));
        is(ORDINARY, STATE, k -> k.hole(1, 4));
        is(ORDINARY, STATE, k -> k.hole(1, 8));
        is(STEPPED, STATE, k -> k.hole(0, 2));
        is(STEPPED, STATE, k -> k.hole(1, 4));
        is(() -> {
            NarrowingKernel k = Worlds.ordinary();
            k.unknown(9, 9);
            return k;
        }, STATE, k -> k.hole(3, 9));
    }

    private static void rule() {
        due.about("4: BAD; STATE; FULL");
        is(NEW, BAD, k -> k.rule(6, 0, 0));
        is(ORDINARY, BAD, k -> k.rule(-1, 0, 0));
        is(ORDINARY, BAD, k -> k.rule(SUM, 3, 0));
        is(ORDINARY, BAD, k -> k.rule(SUM, 0, 1001));
        is(ORDINARY, BAD, k -> k.rule(TABLE, 6, 0));
        is(ORDINARY, BAD, k -> k.rule(LOAD, 101, 0));
        is(STEPPED, BAD, k -> k.rule(SUM, -1, 0));
        is(STEPPED, BAD, k -> k.rule(LOAD, -1, 0));
        is(FULL_ONE, BAD, k -> k.rule(TABLE, -1, 0));
        is(BRIMMING, BAD, k -> k.rule(SUM, 2, -1001));
        is(STEPPED, STATE, k -> k.rule(CLAUSE, 0, 0));
        is(BRIMMING, STATE, k -> k.rule(CLAUSE, 0, 0));
        is(FULL_ONE, FULL, k -> k.rule(CLAUSE, 0, 0));
    }

    private static void part() {
        due.about("5: UNKNOWN (r, x); CAST; BAD: a, b; STATE; FULL");
        is(NEW, UNKNOWN, k -> k.part(0, 0, 1, 1));
        is(ORDINARY, UNKNOWN, k -> k.part(6, 0, 1, 1));
        is(ORDINARY, UNKNOWN, k -> k.part(0, 3, 1, 1));
        is(ORDINARY, UNKNOWN, k -> k.part(5, 3, 1, 1));
        is(ORDINARY, UNKNOWN, k -> k.part(0, -1, 0, 0));
        is(STEPPED, UNKNOWN, k -> k.part(-1, 0, 1, 1));
        is(STEPPED, UNKNOWN, k -> k.part(5, -1, 1, 1));
        is(FULL_ONE, UNKNOWN, k -> k.part(0, 10, 1, 1));
        is(FULL_ONE, UNKNOWN, k -> k.part(1, 10, 0, 0));
        is(ORDINARY, CAST, k -> k.part(5, 0, 1, 1));
        is(ORDINARY, CAST, k -> k.part(5, 2, 99, 99));
        is(STEPPED, CAST, k -> k.part(5, 1, 1, 1));
        is(FULL_ONE, CAST, k -> k.part(1, 6, 1, 1));
        is(BRIMMING, CAST, k -> k.part(1, 6, 0, 0));
        is(ORDINARY, BAD, k -> k.part(0, 2, 0, 0));
        is(ORDINARY, BAD, k -> k.part(0, 0, 10, 0));
        is(ORDINARY, BAD, k -> k.part(3, 2, 16, 0));
        is(ORDINARY, BAD, k -> k.part(3, 2, 15, 21));
        is(ORDINARY, BAD, k -> k.part(3, 0, 0, -1));
        is(STEPPED, BAD, k -> k.part(0, 0, -10, 0));
        is(FULL_ONE, BAD, k -> k.part(0, 6, 0, 0));
        is(BRIMMING, BAD, k -> k.part(0, 0, 0, 0));
        is(STEPPED, STATE, k -> k.part(0, 2, 1, 0));
        is(ORDINARY, STATE, k -> k.part(0, 1, 1, 0));
        is(ORDINARY, STATE, k -> k.part(4, 2, 1, 0));
        is(FULL_ONE, STATE, k -> k.part(0, 5, 1, 0));
        is(BRIMMING, STATE, k -> k.part(0, 6, 1, 0));
        is(FULL_ONE, FULL, k -> k.part(0, 6, 1, 0));
    }

    private static void literal() {
        due.about("6: UNKNOWN (r, x); CAST; BAD: sort, v; STATE; FULL");
        is(NEW, UNKNOWN, k -> k.literal(0, 0, 0, 0));
        is(ORDINARY, UNKNOWN, k -> k.literal(6, 0, 0, 0));
        is(ORDINARY, UNKNOWN, k -> k.literal(0, 3, 0, 0));
        is(ORDINARY, UNKNOWN, k -> k.literal(5, 3, 4, 16));
        is(STEPPED, UNKNOWN, k -> k.literal(5, -1, 0, 0));
        is(FULL_ONE, UNKNOWN, k -> k.literal(1, 10, 0, 0));
        is(ORDINARY, CAST, k -> k.literal(0, 0, 0, 0));
        is(ORDINARY, CAST, k -> k.literal(1, 0, 4, 0));
        is(ORDINARY, CAST, k -> k.literal(4, 0, 0, 16));
        is(STEPPED, CAST, k -> k.literal(2, 0, 0, 0));
        is(FULL_ONE, CAST, k -> k.literal(0, 6, 0, 0));
        is(BRIMMING, CAST, k -> k.literal(0, 6, 4, 0));
        is(ORDINARY, BAD, k -> k.literal(5, 0, 4, 0));
        is(ORDINARY, BAD, k -> k.literal(5, 0, 0, 16));
        is(STEPPED, BAD, k -> k.literal(5, 0, -1, 0));
        is(FULL_ONE, BAD, k -> k.literal(1, 0, 0, -1));
        is(BRIMMING, BAD, k -> k.literal(1, 0, 4, -1));
        is(STEPPED, STATE, k -> k.literal(5, 0, 0, 0));
        is(BRIMMING, STATE, k -> k.literal(1, 0, 0, 0));
        is(FULL_ONE, FULL, k -> k.literal(1, 0, 0, 0));
    }

    private static void stand() {
        due.about("7: UNKNOWN; STATE");
        for (int is = 0; is < 2; is++) {
            boolean stands = is == 1;
            is(NEW, UNKNOWN, k -> k.stand(0, stands));
            is(ORDINARY, UNKNOWN, k -> k.stand(6, stands));
            is(STEPPED, UNKNOWN, k -> k.stand(-1, stands));
            is(FULL_ONE, UNKNOWN, k -> k.stand(16, stands));
            is(STEPPED, STATE, k -> k.stand(0, stands));
            is(STEPPED, STATE, k -> k.stand(4, stands));
        }
    }

    private static void table() {
        due.about("8: BAD: t, lane, n above 48; STATE; SIZE");
        is(ORDINARY, BAD, k -> k.table(6, 0, 1));
        is(ORDINARY, BAD, k -> k.table(0, 3, 1));
        is(ORDINARY, BAD, k -> k.table(0, 0, 49));
        is(ORDINARY, BAD, k -> k.table(-1, 0, -1));
        is(ORDINARY, BAD, k -> k.table(0, -1, -1));
        is(STEPPED, BAD, k -> k.table(0, 0, 49));
        is(STEPPED, BAD, k -> k.table(6, 0, -1));
        is(STEPPED, BAD, k -> k.table(0, 3, -1));
        is(STEPPED, STATE, k -> k.table(0, 0, 4));
        is(STEPPED, STATE, k -> k.table(1, 0, 0));
        is(STEPPED, STATE, k -> k.table(0, 0, -1));
        is(NEW, SIZE, k -> k.table(0, 0, -1));
        is(ORDINARY, SIZE, k -> k.table(0, 1, -1));
        is(ORDINARY, SIZE, k -> k.table(1, 2, -49));
    }

    private static void tear() {
        due.about("9: BAD; STATE");
        is(ORDINARY, BAD, k -> k.tear(6));
        is(STEPPED, BAD, k -> k.tear(-1));
        is(STEPPED, STATE, k -> k.tear(0));
        is(STEPPED, STATE, k -> k.tear(1));
    }

    private static void cell() {
        due.about("10: BAD: t, v; STATE; NULL; PLACE");
        is(ORDINARY, BAD, k -> k.cell(6, 0, 0));
        is(ORDINARY, BAD, k -> k.cell(0, 0, 16));
        is(ORDINARY, BAD, k -> k.cell(0, 4, -1));
        is(ORDINARY, BAD, k -> k.cell(1, 0, 16));
        is(ORDINARY, BAD, k -> k.cell(1, -1, -1));
        is(STEPPED, BAD, k -> k.cell(-1, 0, 0));
        is(STEPPED, BAD, k -> k.cell(0, 0, 16));
        is(STEPPED, STATE, k -> k.cell(0, 0, 9));
        is(STEPPED, STATE, k -> k.cell(1, 0, 0));
        is(STEPPED, STATE, k -> k.cell(0, 4, 0));
        is(NEW, NULL, k -> k.cell(0, 0, 0));
        is(ORDINARY, NULL, k -> k.cell(1, 0, 0));
        is(ORDINARY, NULL, k -> k.cell(5, -1, 0));
        is(ORDINARY, PLACE, k -> k.cell(0, 4, 9));
        is(ORDINARY, PLACE, k -> k.cell(3, -1, 9));
    }

    private static void copy() {
        due.about("11: BAD: t, u, n below 0; STATE; NULL: t, u; PLACE");
        is(ORDINARY, BAD, k -> k.copy(6, 0, 0, 0, 1));
        is(ORDINARY, BAD, k -> k.copy(0, 0, -1, 0, 1));
        is(ORDINARY, BAD, k -> k.copy(0, 0, 3, 0, -1));
        is(ORDINARY, BAD, k -> k.copy(1, -1, 3, 0, -1));
        is(ORDINARY, BAD, k -> k.copy(0, -1, 6, 0, 1));
        is(STEPPED, BAD, k -> k.copy(0, 0, 6, 0, 1));
        is(STEPPED, BAD, k -> k.copy(0, 0, 3, 0, -1));
        is(STEPPED, STATE, k -> k.copy(0, 0, 3, 0, 1));
        is(STEPPED, STATE, k -> k.copy(1, 0, 3, 0, 1));
        is(STEPPED, STATE, k -> k.copy(0, 4, 3, 0, 1));
        is(STEPPED, STATE, k -> k.copy(0, 0, 0, 0, 0));
        is(ORDINARY, NULL, k -> k.copy(1, 0, 3, 0, 1));
        is(ORDINARY, NULL, k -> k.copy(0, 0, 1, 0, 1));
        is(ORDINARY, NULL, k -> k.copy(1, 0, 2, 0, 0));
        is(ORDINARY, NULL, k -> k.copy(0, 5, 1, -1, 99));
        is(ORDINARY, PLACE, k -> k.copy(0, 3, 3, 0, 2));
        is(ORDINARY, PLACE, k -> k.copy(0, 0, 3, 0, 3));
        is(ORDINARY, PLACE, k -> k.copy(3, 0, 0, 3, 2));
        is(ORDINARY, PLACE, k -> k.copy(0, -1, 3, 0, 1));
        is(ORDINARY, PLACE, k -> k.copy(0, 0, 3, -1, 1));
    }

    private static void getAndAbout() {
        due.about("12: BAD; NULL; PLACE");
        is(ORDINARY, BAD, k -> k.get(6, 0));
        is(STEPPED, BAD, k -> k.get(-1, -1));
        is(NEW, NULL, k -> k.get(0, 0));
        is(ORDINARY, NULL, k -> k.get(1, -1));
        is(STEPPED, NULL, k -> k.get(1, 48));
        is(ORDINARY, PLACE, k -> k.get(0, 4));
        is(STEPPED, PLACE, k -> k.get(3, -1));
        due.about("13: UNKNOWN; BAD: what; CAST");
        is(NEW, UNKNOWN, k -> k.about(0, 0));
        is(ORDINARY, UNKNOWN, k -> k.about(6, 3));
        is(STEPPED, UNKNOWN, k -> k.about(-1, 0));
        is(ORDINARY, BAD, k -> k.about(0, 3));
        is(STEPPED, BAD, k -> k.about(5, -1));
        is(ORDINARY, CAST, k -> k.about(0, 1));
        is(ORDINARY, CAST, k -> k.about(5, 0));
        is(STEPPED, CAST, k -> k.about(3, 2));
    }

    private static void narrowing() {
        due.about("14: STATE");
        is(DEAD, STATE, NarrowingKernel::narrow);
        is(() -> {
            NarrowingKernel k = Worlds.stepped();
            k.step(0, 3, 4);
            k.step(1, 3, 6);
            return k;
        }, STATE, NarrowingKernel::narrow);
        due.about("15: UNKNOWN");
        is(NEW, UNKNOWN, k -> k.takes(0));
        is(ORDINARY, UNKNOWN, k -> k.takes(6));
        is(STEPPED, UNKNOWN, k -> k.takes(-1));
        due.about("16: UNKNOWN; BAD: sort, v; STATE; FULL");
        is(NEW, UNKNOWN, k -> k.step(0, 0, 0));
        is(ORDINARY, UNKNOWN, k -> k.step(3, 4, 0));
        is(BRIMMING, UNKNOWN, k -> k.step(10, 0, 0));
        is(ORDINARY, BAD, k -> k.step(0, 4, 0));
        is(STEPPED, BAD, k -> k.step(0, 3, 16));
        is(BRIMMING, BAD, k -> k.step(9, 3, 16));
        is(BRIMMING, BAD, k -> k.step(9, -1, 0));
        is(ORDINARY, STATE, k -> k.step(0, 3, 5));
        is(STEPPED, STATE, k -> k.step(0, 3, 1));
        is(BRIMMING, STATE, k -> k.step(9, 0, 0));
        is(BRIMMING, FULL, k -> k.step(9, 1, 1));
        is(BRIMMING, FULL, k -> k.step(0, 3, 1));
        due.about("17: BAD");
        is(NEW, BAD, k -> k.undo(1));
        is(ORDINARY, BAD, k -> k.undo(-1));
        is(STEPPED, BAD, k -> k.undo(4));
        is(BRIMMING, BAD, k -> k.undo(13));
        due.about("18: UNKNOWN; BAD");
        is(NEW, UNKNOWN, k -> k.range(0, 0));
        is(ORDINARY, UNKNOWN, k -> k.range(3, 5));
        is(STEPPED, UNKNOWN, k -> k.range(-1, -1));
        is(ORDINARY, BAD, k -> k.range(0, 5));
        is(STEPPED, BAD, k -> k.range(0, -1));
        due.about("19: UNKNOWN; BAD: v; STATE");
        is(NEW, UNKNOWN, k -> k.why(0, 0));
        is(ORDINARY, UNKNOWN, k -> k.why(3, 16));
        is(STEPPED, UNKNOWN, k -> k.why(-1, 0));
        is(ORDINARY, BAD, k -> k.why(0, 16));
        is(STEPPED, BAD, k -> k.why(0, -1));
        is(ORDINARY, STATE, k -> k.why(0, 6));
        is(ORDINARY, STATE, k -> k.why(0, 0));
        is(STEPPED, STATE, k -> k.why(1, 4));
        is(DEAD, STATE, k -> k.why(1, 4));
    }

    private static void answers() {
        due.about("21: FAR");
        is(FAR_ONE, FAR, NarrowingKernel::solve);
        due.about("22: STATE; FAR");
        is(NEW, STATE, NarrowingKernel::next);
        is(FULL_ONE, STATE, NarrowingKernel::next);
        is(FAR_ONE, FAR, NarrowingKernel::next);
        is(() -> {
            NarrowingKernel k = Worlds.far();
            k.unknown(0, 1);
            return k;
        }, STATE, NarrowingKernel::next);
        is(() -> {
            NarrowingKernel k = Worlds.ordinary();
            k.unknown(0, 1);
            return k;
        }, STATE, NarrowingKernel::next);
        is(() -> Worlds.with(10, 0, 15), STATE, NarrowingKernel::next);
        due.about("23: UNKNOWN; STATE");
        is(NEW, UNKNOWN, k -> k.answer(0));
        is(ORDINARY, UNKNOWN, k -> k.answer(3));
        is(STEPPED, UNKNOWN, k -> k.answer(-1));
        is(FULL_ONE, UNKNOWN, k -> k.answer(10));
        is(FULL_ONE, STATE, k -> k.answer(9));
        due.about("24: BAD; FAR");
        is(ORDINARY, BAD, k -> k.count(0));
        is(STEPPED, BAD, k -> k.count(20001));
        is(DEAD, BAD, k -> k.count(0));
        is(FAR_ONE, BAD, k -> k.count(20001));
        is(FAR_ONE, BAD, k -> k.count(0));
        is(FAR_ONE, FAR, k -> k.count(20000));
        is(FAR_ONE, FAR, k -> k.count(1));
        due.about("25: UNKNOWN; FAR");
        is(NEW, UNKNOWN, k -> k.best(0, true));
        is(ORDINARY, UNKNOWN, k -> k.best(3, false));
        is(DEAD, UNKNOWN, k -> k.best(3, false));
        is(FAR_ONE, UNKNOWN, k -> k.best(5, true));
        is(FAR_ONE, UNKNOWN, k -> k.best(-1, false));
        is(FAR_ONE, FAR, k -> k.best(0, true));
        is(FAR_ONE, FAR, k -> k.best(4, false));
        due.about("26: UNKNOWN; BAD; FAR");
        is(NEW, UNKNOWN, k -> k.has(0, 0, 0));
        is(ORDINARY, UNKNOWN, k -> k.has(3, 4, 0));
        is(FAR_ONE, UNKNOWN, k -> k.has(5, 0, 0));
        is(ORDINARY, BAD, k -> k.has(0, 4, 0));
        is(STEPPED, BAD, k -> k.has(0, 0, 16));
        is(DEAD, BAD, k -> k.has(0, 0, -1));
        is(FAR_ONE, BAD, k -> k.has(0, -1, 0));
        is(FAR_ONE, FAR, k -> k.has(0, 0, 15));
        due.about("27: FAR");
        is(FAR_ONE, FAR, NarrowingKernel::core);
        is(() -> {
            NarrowingKernel k = Worlds.far();
            k.step(4, 2, 0);
            k.why(4, 0);
            return k;
        }, FAR, NarrowingKernel::core);
    }

    private static void proofs() {
        due.about("28: UNKNOWN; FULL");
        is(NEW, UNKNOWN, k -> k.line(0));
        is(ORDINARY, UNKNOWN, k -> k.line(6));
        is(STEPPED, UNKNOWN, k -> k.line(-1));
        is(FULL_ONE, UNKNOWN, k -> k.line(16));
        is(FULL_ONE, UNKNOWN, k -> k.line(-8));
        is(FULL_ONE, FULL, k -> k.line(0));
        is(BRIMMING, FULL, k -> k.line(NONE));
        due.about("29: UNKNOWN (l, x); BAD; FULL");
        is(NEW, UNKNOWN, k -> k.says(0, 0, 0, 0));
        is(ORDINARY, UNKNOWN, k -> k.says(2, 0, 4, 0));
        is(STEPPED, UNKNOWN, k -> k.says(0, 3, 0, 16));
        is(FULL_ONE, UNKNOWN, k -> k.says(0, 10, 0, 0));
        is(FULL_ONE, UNKNOWN, k -> k.says(40, 0, 0, 0));
        is(ORDINARY, BAD, k -> k.says(0, 0, 4, 0));
        is(STEPPED, BAD, k -> k.says(0, 0, 0, 16));
        is(FULL_ONE, BAD, k -> k.says(0, 0, 0, -1));
        is(FULL_ONE, FULL, k -> k.says(0, 0, 0, 0));
        is(BRIMMING, FULL, k -> k.says(0, 9, 3, 15));
        due.about("30: UNKNOWN: also k; BAD");
        is(NEW, UNKNOWN, k -> k.forge(0, 0, 0, 0));
        is(ORDINARY, UNKNOWN, k -> k.forge(2, 0, 4, 0));
        is(ORDINARY, UNKNOWN, k -> k.forge(0, 2, 0, 0));
        is(STEPPED, UNKNOWN, k -> k.forge(0, -1, 0, 16));
        is(FULL_ONE, UNKNOWN, k -> k.forge(1, 0, 0, 0));
        is(FULL_ONE, UNKNOWN, k -> k.forge(0, 6, 0, 0));
        is(ORDINARY, BAD, k -> k.forge(0, 1, 4, 0));
        is(STEPPED, BAD, k -> k.forge(0, 1, 0, 16));
        is(FULL_ONE, BAD, k -> k.forge(0, 5, -1, 0));
        due.about("31, 32: FAR");
        Supplier<NarrowingKernel> farLine = () -> {
            NarrowingKernel k = Worlds.far();
            k.rule(UNLIKE, 0, 0);
            for (int x = 0; x < 5; x++) {
                k.part(1, x, 0, 0);
            }
            k.line(1);
            return k;
        };
        is(farLine, FAR, NarrowingKernel::check);
        is(farLine, FAR, NarrowingKernel::refutes);
        due.about("33: BAD");
        is(ORDINARY, BAD, k -> k.total(-1));
        is(STEPPED, BAD, k -> k.total(6));
    }

    /** Of RANGES that are not narrowed yet, and without THE ANSWER: neither comes by a call that is refused. */
    private static void whatIsWideStaysWide() {
        due.about("what is refused, found changes nothing but counts: not narrowed, no ANSWER told");
        is(WIDE, BAD, k -> k.unknown(3, 2));
        is(WIDE_STEPPED, STATE, k -> k.unknown(2, 3));
        is(WIDE, STATE, k -> k.hole(1, 4));
        is(WIDE_STEPPED, STATE, k -> k.hole(0, 4));
        is(WIDE, BAD, k -> k.rule(6, 0, 0));
        is(WIDE_STEPPED, STATE, k -> k.rule(RING, 0, 0));
        is(WIDE, STATE, k -> k.part(0, 0, 1, 1));
        is(WIDE_STEPPED, STATE, k -> k.part(0, 2, 1, 1));
        is(WIDE, CAST, k -> k.part(5, 0, 1, 1));
        is(WIDE, CAST, k -> k.literal(0, 0, 0, 0));
        is(WIDE_STEPPED, STATE, k -> k.literal(5, 0, 0, 0));
        is(WIDE, UNKNOWN, k -> k.stand(6, true));
        is(WIDE_STEPPED, STATE, k -> k.stand(0, false));
        is(WIDE, SIZE, k -> k.table(0, 0, -1));
        is(WIDE_STEPPED, STATE, k -> k.table(0, 0, 1));
        is(WIDE, BAD, k -> k.tear(6));
        is(WIDE_STEPPED, STATE, k -> k.tear(0));
        is(WIDE, PLACE, k -> k.cell(0, 4, 1));
        is(WIDE_STEPPED, STATE, k -> k.cell(0, 0, 1));
        is(WIDE, NULL, k -> k.copy(0, 0, 1, 0, 1));
        is(WIDE_STEPPED, STATE, k -> k.copy(0, 0, 0, 1, 1));
        is(WIDE_STEPPED, UNKNOWN, k -> k.takes(6));
        is(WIDE_STEPPED, STATE, k -> k.step(2, 0, 0));
        is(WIDE_STEPPED, BAD, k -> k.undo(3));
        is(WIDE_STEPPED, BAD, k -> k.range(0, 5));
        is(WIDE_STEPPED, STATE, k -> k.why(0, 0));
        is(WIDE, STATE, NarrowingKernel::next);
        is(WIDE_STEPPED, STATE, k -> k.answer(0));
        is(WIDE_STEPPED, BAD, k -> k.count(0));
        is(WIDE_STEPPED, UNKNOWN, k -> k.best(3, true));
        is(WIDE_STEPPED, BAD, k -> k.has(0, 4, 0));
        is(WIDE_STEPPED, UNKNOWN, k -> k.line(6));
        is(WIDE_STEPPED, BAD, k -> k.says(0, 0, 4, 0));
        is(WIDE_STEPPED, UNKNOWN, k -> k.forge(0, 2, 0, 0));
        is(WIDE_STEPPED, BAD, k -> k.total(6));
        is(() -> {
            NarrowingKernel k = Worlds.wideStepped();
            k.step(0, 3, 5);
            k.step(1, 1, 2);
            return k;
        }, STATE, NarrowingKernel::narrow);
        due.about("what is but asked changes nothing: not narrowed, no ANSWER told");
        for (int steps = 0; steps < 2; steps++) {
            Supplier<NarrowingKernel> world = steps == 0 ? WIDE : WIDE_STEPPED;
            stays(world, 2, k -> k.get(0, 1));
            stays(world, 6, k -> k.about(0, 0));
            stays(world, 0, k -> k.takes(1));
            stays(world, 6, k -> k.range(0, 0));
            stays(world, 1, k -> k.reason(0));
            stays(world, 2, k -> k.count(2));
            stays(world, 2, k -> k.has(0, 3, 1));
            stays(world, NONE, NarrowingKernel::check);
            stays(world, 0, NarrowingKernel::refutes);
            stays(world, 3, k -> k.total(0));
            stays(world, 0, k -> k.undo(k.total(2)));
        }
    }

    private static void whatIsAskedStays() {
        due.about("what is but asked changes nothing");
        stays(ORDINARY, 3, k -> k.get(0, 2));
        stays(STEPPED, 8, k -> k.get(3, 1));
        stays(ORDINARY, 6, k -> k.about(0, 0));
        stays(STEPPED, 0, k -> k.about(2, 2));
        stays(ORDINARY, 0, k -> k.takes(0));
        stays(STEPPED, 2, k -> k.takes(4));
        stays(ORDINARY, 5, k -> k.range(0, 0));
        stays(STEPPED, 0xEC, k -> k.range(1, 4));
        stays(ORDINARY, 1, k -> k.reason(0));
        stays(STEPPED, NONE, k -> k.reason(1));
        stays(ORDINARY, 3, k -> k.answer(1));
        stays(STEPPED, 1, k -> k.count(1));
        stays(DEAD, 0, k -> k.count(1));
        stays(ORDINARY, 1, k -> k.has(0, 0, 4));
        stays(STEPPED, 2, k -> k.has(0, 0, 2));
        stays(DEAD, 3, k -> k.has(0, 0, 2));
        stays(ORDINARY, NONE, NarrowingKernel::check);
        stays(BRIMMING, 1, NarrowingKernel::check);
        stays(ORDINARY, 0, NarrowingKernel::refutes);
        stays(STEPPED, 3, k -> k.total(0));
        stays(STEPPED, 0, k -> k.undo(3));
        stays(ORDINARY, 0, k -> k.undo(0));
        stays(STEPPED, 0, NarrowingKernel::narrow);
    }

    private static void whatIsDoneAndNoMore() {
        due.about("what is done changes what the document says, and no more");
        int totals = Probe.TOTALS, ranges = Probe.RANGES, answers = Probe.ANSWERS, reasons = Probe.REASONS;
        int cells = Probe.CELLS, abouts = Probe.ABOUTS, proof = Probe.PROOF, count = Probe.COUNT;
        for (int i = 0; i < 2; i++) {
            Supplier<NarrowingKernel> world = i == 0 ? ORDINARY : WIDE;
            due.changes(world, 3, k -> k.unknown(9, 9), totals, ranges, answers, abouts);
            due.changes(world, 5, k -> k.hole(0, 0), ranges, abouts, count, proof);
            due.changes(world, 6, k -> k.rule(UNLIKE, 0, 0), totals, ranges, abouts);
            due.changes(world, 3, k -> k.part(0, 2, 1, 0), ranges, abouts, count);
            due.changes(world, 3, k -> k.literal(5, 1, 0, 0), ranges, abouts, count, proof);
            due.changes(world, 1, k -> k.stand(0, false), ranges, abouts, count);
            due.changes(world, 3, k -> k.table(1, 0, 3), totals, ranges, cells, abouts);
            due.changes(world, 0, k -> k.tear(3), totals, ranges, cells, abouts);
            due.changes(world, 1, k -> k.cell(0, 0, 1), ranges, cells, abouts, count);
            due.changes(world, 2, k -> k.copy(0, 0, 3, 0, 2), ranges, cells, abouts);
            due.changes(world, i == 0 ? 0 : 3, NarrowingKernel::narrow, ranges, abouts);
            due.changes(world, 0, k -> k.step(0, 2, 1), totals, ranges, abouts, count);
            due.changes(world, 1, NarrowingKernel::solve, answers);
            due.changes(world, 4, k -> k.best(0, true), answers);
            due.changes(world, 2, k -> k.line(0), totals, proof);
            due.changes(world, 3, k -> k.says(0, 1, 0, 15), proof);
            due.changes(world, 1, k -> k.forge(0, 1, 0, 15), proof);
        }
        due.changes(ORDINARY, 1, NarrowingKernel::next, answers);
        due.changes(ORDINARY, NONE, NarrowingKernel::core, reasons);
        due.changes(ORDINARY, 0, k -> k.why(0, 5), reasons);
        due.changes(WIDE_STEPPED, 2, k -> k.undo(0), totals, ranges, abouts, count);
        due.changes(WIDE_STEPPED, 1, k -> k.undo(1), totals, ranges, abouts, count);
        due.changes(WIDE_STEPPED, 2, NarrowingKernel::narrow, ranges, abouts);
        due.changes(WIDE_STEPPED, 1, k -> k.why(2, 0), reasons);
        due.changes(WIDE_STEPPED, NONE, NarrowingKernel::core, reasons);
        due.changes(STEPPED, 1, NarrowingKernel::solve, answers);
        due.changes(DEAD, 0, NarrowingKernel::solve, answers);
        due.changes(DEAD, NONE, k -> k.best(0, true), answers);
        due.changes(DEAD, 0, NarrowingKernel::core, reasons);
        due.changes(DEAD, 0, NarrowingKernel::next);
    }

    /** These keep a list of reasons, or an ANSWER: the same one as stands, so that nothing else may change. */
    private static void whatIsSoughtStays() {
        due.about("what seeks changes nothing but THE ANSWER, or the reasons");
        Supplier<NarrowingKernel> solved = () -> {
            NarrowingKernel k = Worlds.stepped();
            k.solve();
            return k;
        };
        stays(solved, 1, NarrowingKernel::solve);
        Supplier<NarrowingKernel> greatest = () -> {
            NarrowingKernel k = Worlds.stepped();
            k.best(1, true);
            return k;
        };
        stays(greatest, 6, k -> k.best(1, true));
        Supplier<NarrowingKernel> last = () -> {
            NarrowingKernel k = Worlds.ordinary();
            k.best(0, true);
            for (int i = 0; i < 40 && k.next() == 1; i++) {
                k.total(0);
            }
            return k;
        };
        stays(last, 0, NarrowingKernel::next);
        Supplier<NarrowingKernel> blamed = () -> {
            NarrowingKernel k = Worlds.stepped();
            k.why(2, 0);
            return k;
        };
        stays(blamed, 1, k -> k.why(2, 0));
        Supplier<NarrowingKernel> cored = () -> {
            NarrowingKernel k = Worlds.stepped();
            k.core();
            return k;
        };
        stays(cored, NONE, NarrowingKernel::core);
    }

    public static void main(String[] args) {
        worlds();
        unknown();
        hole();
        rule();
        part();
        literal();
        stand();
        table();
        tear();
        cell();
        copy();
        getAndAbout();
        narrowing();
        answers();
        proofs();
        whatIsWideStaysWide();
        whatIsAskedStays();
        whatIsDoneAndNoMore();
        whatIsSoughtStays();
        due.end();
    }
}
