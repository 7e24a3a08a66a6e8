/** Sections 1 to 4 of the document, each sentence that names an edge in a test of its own. */
public final class BoundsOfTermsTest {
    private static final int UNKNOWN = -1, BAD = -2, STATE = -3, FULL = -4, FAR = -5, NONE = -9;
    private static final int NULL = -11, PLACE = -12, CAST = -13, SIZE = -14;
    private static final int SUM = 0, UNLIKE = 1, TABLE = 2, LOAD = 3, RING = 4, CLAUSE = 5;
    private static final int AT_MOST = 0, EXACTLY = 1, NOT = 2;
    private static final int IS_AT_MOST = 0, IS_AT_LEAST = 1, IS_NOT = 2, IS_JUST = 3;
    private static final Due due = new Due("BoundsOfTermsTest");

    // ---- what it is

    private static void callsOfOneObject() {
        due.about("An object is used for at most 512 calls");
        NarrowingKernel k = new NarrowingKernel();
        k.unknown(0, 15);
        for (int i = 0; i < 255; i++) {
            due.is(0, k.step(0, IS_NOT, i % 16));
            due.is(1, k.undo(0));
        }
        due.is(0xFFFF, k.range(0, 3));
        k = new NarrowingKernel();
        for (int i = 0; i < 511; i++) {
            due.is(NULL, k.get(i % 6, i));
        }
        due.is(511, k.total(4));
        k = new NarrowingKernel();
        for (int i = 0; i < 511; i++) {
            due.is(48, k.table(i % 6, i % 3, 48));
        }
        due.is(6, k.total(5));
    }

    private static void objectsAreApart() {
        due.about("what one object is told is not told to another");
        NarrowingKernel one = Worlds.stepped();
        NarrowingKernel other = new NarrowingKernel();
        for (int what = 0; what < 6; what++) {
            due.is(0, other.total(what));
        }
        due.is(NULL, other.get(0, 0));
        other.unknown(3, 4);
        due.is(0x18, other.range(0, 3));
        due.is(0x3F, one.range(0, 4));
    }

    // ---- 1

    private static void unknownsOfNumbers() {
        due.about("1: UNKNOWNS 0 .. 9 have RANGES, sets of NUMBERS 0 .. 15");
        NarrowingKernel k = new NarrowingKernel();
        for (int x = 0; x < 10; x++) {
            due.is(x, k.unknown(0, 15));
        }
        due.is(FULL, k.unknown(0, 15));
        due.is(0xFFFF, k.range(9, 3));
        due.is(UNKNOWN, k.range(10, 3));
        due.is(BAD, k.unknown(-1, 15));
        due.is(BAD, k.unknown(0, 16));
        // the first and the last of both
        for (int x = 0; x < 10; x += 9) {
            for (int v = 0; v < 16; v += 15) {
                due.is(x == 0 && v == 0 || x == 9 && v == 0 ? 0 : 1, k.step(x, IS_NOT, v));
            }
            due.is(0x7FFE, k.range(x, 3));
            k.undo(0);
        }
    }

    private static void toldAndNow() {
        due.about("1: as they were told (TOLD), and as they are now");
        NarrowingKernel k = Worlds.with(2, 0, 15);
        k.hole(0, 15);
        due.is(0x7FFF, k.range(0, 3));
        due.is(0x7FFF, k.range(0, 4));
        k.step(0, IS_AT_LEAST, 1);
        due.is(0x7FFE, k.range(0, 3));
        due.is(0x7FFF, k.range(0, 4));
        due.is(0xFFFF, k.range(1, 3));
    }

    private static void twelveSteps() {
        due.about("1: STEPS 0, 1, .. (12 at most)");
        NarrowingKernel k = Worlds.with(1, 0, 15);
        for (int d = 0; d < 12; d++) {
            due.is(d, k.step(0, IS_NOT, d));
        }
        due.is(FULL, k.step(0, IS_NOT, 12));
        due.is(0xF000, k.range(0, 3));
        // put one behind the other: the twelfth goes first
        due.is(1, k.undo(11));
        due.is(0xF800, k.range(0, 3));
        due.is(11, k.step(0, IS_NOT, 15));
        due.is(0x7800, k.range(0, 3));
    }

    private static boolean isSo(int sort, int v, int number) {
        return sort == IS_AT_MOST ? number <= v : sort == IS_AT_LEAST ? number >= v
                : sort == IS_NOT ? number != v : number == v;
    }

    private static int bitsSo(int sort, int v) {
        int bits = 0;
        for (int number = 0; number < 16; number++) {
            bits |= isSo(sort, v, number) ? 1 << number : 0;
        }
        return bits;
    }

    private static void sortsOfLiterals() {
        due.about("1: at most v (sort 0), (1) at least v, (2) not v, (3) just v: v from 0 to 15");
        for (int sort = 0; sort < 4; sort++) {
            for (int v = 0; v < 16; v++) {
                int bits = bitsSo(sort, v);
                NarrowingKernel k = Worlds.with(1, 0, 15);
                due.is(0, k.step(0, sort, v));
                due.is(bits, k.range(0, 3));
                k.undo(0);
                Worlds.clauseOf(k, 0, sort, v);
                due.is(Integer.bitCount(bits), k.count(20000));
                due.is(16 - Integer.bitCount(bits), k.narrow());
                due.is(bits, k.range(0, 3));
                due.is(1, k.has(0, sort, v));
            }
        }
    }

    private static void literalsOfOneNumber() {
        due.about("1: a LITERAL of an UNKNOWN that has one NUMBER is so, or is not");
        for (int sort = 0; sort < 4; sort++) {
            for (int v = 0; v < 16; v++) {
                NarrowingKernel k = Worlds.with(1, 0, 15);
                int said = Worlds.lineOf(k, NONE, 0, sort, v, 0, IS_NOT, 0);
                k.forge(said, 1, sort, v);
                for (int number = 0; number < 16; number++) {
                    boolean is = isSo(sort, v, number);
                    due.is(0, k.step(0, IS_JUST, number));
                    due.is(is ? 1 : 0, k.has(0, sort, v));
                    due.is(is ? 1 : STATE, k.step(0, sort, v));
                    k.undo(0);
                }
                // as a LINE: always so, just if all NUMBERS make it so
                due.is(bitsSo(sort, v) == 0xFFFF ? NONE : 0, k.check());
            }
        }
    }

    private static void answerOfNoUnknowns() {
        due.about("1: AN ANSWER gives each UNKNOWN a NUMBER: with no UNKNOWNS there is just one");
        NarrowingKernel k = new NarrowingKernel();
        due.is(1, k.count(20000));
        due.is(1, k.solve());
        due.is(0, k.next());
        due.is(UNKNOWN, k.answer(0));
        due.is(NONE, k.core());
        k.rule(UNLIKE, 0, 0);
        due.is(1, k.count(20000));
        k.rule(TABLE, 0, 0);
        due.is(0, k.count(20000));
        due.is(0, k.solve());
        due.is(STATE, k.next());
        due.is(0, k.core());
    }

    private static void sixteenRules() {
        due.about("1: RULES 0 .. 15");
        NarrowingKernel k = Worlds.with(1, 0, 15);
        for (int r = 0; r < 16; r++) {
            due.is(r, k.rule(SUM, NOT, r));
            due.is(1, k.part(r, 0, 1, 0));
        }
        due.is(FULL, k.rule(SUM, NOT, 0));
        due.is(15, k.about(15, 0));
        due.is(UNKNOWN, k.about(16, 0));
        // each has its say: all NUMBERS go
        due.is(STATE, k.narrow());
        due.is(0, k.count(20000));
        for (int r = 0; r < 16; r += 15) {
            k.stand(r, false);
            due.is(15, k.narrow());
            due.is(1 << r, k.range(0, 3));
            due.is(1, k.count(20000));
            k.stand(r, true);
        }
        // whichever of 16 it is that an ANSWER does not fit
        for (int odd = 0; odd < 16; odd++) {
            k = Worlds.with(2, 0, 1);
            for (int r = 0; r < 16; r++) {
                Worlds.ruleOf(k, SUM, NOT, r == odd ? 1 : 5, 0, 1, 1);
            }
            due.is(0, k.narrow());
            due.is(2, k.count(20000));
            due.is(1, k.solve());
            due.is(1, k.next());
            due.answers(k, 1, 1);
        }
    }

    private static void standsAtFirst() {
        due.about("1: each STANDS (at first) or was taken out");
        for (int kind = 0; kind < 6; kind++) {
            NarrowingKernel k = new NarrowingKernel();
            k.rule(kind, 0, 0);
            due.is(1, k.stand(0, false));
            due.is(0, k.stand(0, true));
        }
        NarrowingKernel k = Worlds.with(1, 0, 3);
        Worlds.clauseOf(k, 0, IS_JUST, 2);
        due.is(1, k.count(20000));
        due.is(3, k.narrow());
        k.stand(0, false);
        due.is(4, k.count(20000));
        due.is(0, k.narrow());
    }

    private static void sixParts() {
        due.about("1: with PARTS (6 at most), an UNKNOWN each");
        for (int kind = 0; kind < 6; kind++) {
            NarrowingKernel k = Worlds.with(7, 0, 5);
            k.rule(kind, 0, 0);
            for (int x = 0; x < 6; x++) {
                due.is(x + 1, kind == CLAUSE ? k.literal(0, x, IS_JUST, 0) : k.part(0, x, 1, 0));
            }
            due.is(FULL, kind == CLAUSE ? k.literal(0, 6, IS_JUST, 0) : k.part(0, 6, 1, 0));
        }
    }

    private static void sumAtItsBound() {
        due.about("1: SUM: at most (how 0), exactly (1), not (2) the bound");
        // 2 x 0 - x 1 of the NUMBERS 3 and 4 is 2
        for (int bound = 1; bound <= 3; bound++) {
            for (int how = AT_MOST; how <= NOT; how++) {
                NarrowingKernel k = new NarrowingKernel();
                k.unknown(3, 3);
                k.unknown(4, 4);
                Worlds.ruleOf(k, SUM, how, bound, 0, 2, -1);
                boolean fits = how == AT_MOST ? bound >= 2 : how == EXACTLY ? bound == 2 : bound != 2;
                due.is(fits ? 1 : 0, k.count(20000));
                due.is(fits ? 0 : STATE, k.narrow());
            }
        }
    }

    private static void sumsMultiples() {
        due.about("1: SUM: PARTS have multiples m (-9 .. 9, not 0)");
        for (int m = -10; m <= 10; m++) {
            NarrowingKernel k = Worlds.with(1, 15, 15);
            k.rule(SUM, EXACTLY, m * 15);
            boolean may = m != 0 && m >= -9 && m <= 9;
            due.is(may ? 1 : BAD, k.part(0, 0, m, 0));
            // without PARTS it is 0
            due.is(may || m == 0 ? 0 : STATE, k.narrow());
        }
    }

    private static void greatestSums() {
        due.about("1: SUM: all m times UNKNOWN, together: as great and as small as they can be");
        for (int sign = -1; sign <= 1; sign += 2) {
            for (int bound = 809; bound <= 811; bound++) {
                for (int how = AT_MOST; how <= NOT; how++) {
                    NarrowingKernel k = Worlds.with(6, 15, 15);
                    int m = 9 * sign;
                    Worlds.ruleOf(k, SUM, how, bound * sign, 0, m, m, m, m, m, m);
                    boolean fits = how == EXACTLY ? bound == 810 : how == NOT ? bound != 810
                            : 810 * sign <= bound * sign;
                    due.is(fits ? 1 : 0, k.count(20000));
                    due.is(fits ? 0 : STATE, k.narrow());
                }
            }
        }
    }

    private static void sumsBound() {
        due.about("1: SUM: the bound (-1000 .. 1000)");
        for (int bound = -1001; bound <= 1001; bound += bound == -1000 ? 2000 : 1) {
            boolean may = bound >= -1000 && bound <= 1000;
            for (int how = AT_MOST; how <= NOT; how++) {
                NarrowingKernel k = Worlds.with(1, 0, 15);
                due.is(may ? 0 : BAD, k.rule(SUM, how, bound));
                due.is(may ? bound : UNKNOWN, k.about(0, 0));
                k.part(0, 0, 9, 0);
                boolean fits = !may || how == NOT || how == AT_MOST && bound > 0;
                due.is(fits ? 16 : 0, k.count(20000));
                due.is(fits ? 0 : STATE, k.narrow());
            }
        }
    }

    private static void unlikes() {
        due.about("1: UNLIKE: no two are the same");
        NarrowingKernel k = Worlds.with(1, 0, 15);
        Worlds.ruleOf(k, UNLIKE, 0, 0, 0, 0);
        due.is(16, k.count(20000));
        for (int v = 14; v <= 15; v++) {
            k = new NarrowingKernel();
            k.unknown(15, 15);
            k.unknown(v, v);
            Worlds.ruleOf(k, UNLIKE, 0, 0, 0, 0, 0);
            due.is(v == 15 ? 0 : 1, k.count(20000));
        }
        // whichever two of six they are
        for (int one = 0; one < 6; one++) {
            for (int other = 0; other < one; other++) {
                k = new NarrowingKernel();
                for (int x = 0; x < 6; x++) {
                    int v = x == one ? other : x;
                    k.unknown(v, v);
                }
                Worlds.ruleOf(k, UNLIKE, 0, 0, 0, 0, 0, 0, 0, 0, 0);
                due.is(0, k.count(20000));
                due.is(6, k.takes(0));
            }
        }
        k = Worlds.with(6, 10, 15);
        Worlds.ruleOf(k, UNLIKE, 0, 0, 0, 0, 0, 0, 0, 0, 0);
        due.is(0, k.narrow());
        due.is(FAR, k.count(720));
        k.step(0, IS_JUST, 10);
        due.is(5, k.narrow());
        due.is(120, k.count(720));
    }

    private static void rowsOfATable() {
        due.about("1: TABLE: they are, in order, a ROW: cells one behind the other, as many as there are PARTS");
        NarrowingKernel k = Worlds.with(2, 0, 15);
        Worlds.tableOf(k, 5, 1, 2, 15, 0);
        Worlds.ruleOf(k, TABLE, 5, 0, 0, 0, 0);
        due.is(2, k.count(20000));
        k.solve();
        due.answers(k, 1, 2);
        k.next();
        due.answers(k, 15, 0);
        // in order of the PARTS, not of the UNKNOWNS
        k.stand(0, false);
        k.rule(TABLE, 5, 0);
        k.part(1, 1, 0, 0);
        k.part(1, 0, 0, 0);
        due.is(2, k.count(20000));
        k.solve();
        due.answers(k, 0, 15);
        k.next();
        due.answers(k, 2, 1);
        // one PART: each cell is a ROW
        k.stand(1, false);
        k.rule(TABLE, 5, 0);
        k.part(2, 0, 0, 0);
        due.is(4 * 16, k.count(20000));
    }

    private static void lastRowCutShort() {
        due.about("1: TABLE: a last ROW that is cut short is none");
        for (int parts = 1; parts <= 6; parts++) {
            for (int cells = 0; cells <= 13; cells++) {
                NarrowingKernel k = Worlds.with(parts, 0, 13);
                k.table(0, 0, cells);
                for (int i = 0; i < cells; i++) {
                    k.cell(0, i, i);
                }
                k.rule(TABLE, 0, 0);
                for (int x = 0; x < parts; x++) {
                    k.part(0, x, 0, 0);
                }
                int rows = cells / parts;
                due.is(14 * parts - rows * parts, k.takes(0));
                due.is(rows == 0 ? STATE : 14 * parts - rows * parts, k.narrow());
                due.is(rows, parts > 3 && rows > 1 ? k.count(20000) : rows);
            }
        }
    }

    private static void tableWithoutParts() {
        due.about("1: TABLE: without PARTS there are no ROWS");
        for (int cells = -1; cells <= 48; cells += cells < 1 ? 1 : 47) {
            NarrowingKernel k = Worlds.with(1, 0, 0);
            if (cells >= 0) {
                k.table(0, 0, cells);
            }
            k.rule(TABLE, 0, 0);
            due.is(STATE, k.narrow());
            due.is(0, k.takes(0));
            due.is(0, k.count(20000));
        }
    }

    private static void fullTable() {
        due.about("1: TABLE: all ROWS of 48 cells count, the last one too");
        for (int parts = 1; parts <= 6; parts++) {
            NarrowingKernel k = Worlds.with(parts, 0, 15);
            k.table(5, 0, 48);
            int last = 48 / parts * parts;
            for (int i = last - parts; i < last; i++) {
                k.cell(5, i, 15);
            }
            k.rule(TABLE, 5, 0);
            for (int x = 0; x < parts; x++) {
                k.part(0, x, 0, 0);
            }
            due.is(14 * parts, k.narrow());
            due.is(2, k.count(20000));
            due.is(15, k.best(parts - 1, true));
        }
    }

    private static void loadAtItsMost() {
        due.about("1: LOAD: the needs of all that run are not more than most (0 .. 100)");
        for (int jobs = 5; jobs <= 6; jobs++) {
            NarrowingKernel k = Worlds.with(jobs, 0, 0);
            k.rule(LOAD, 100, 0);
            for (int x = 0; x < jobs; x++) {
                k.part(0, x, 1, 20);
            }
            due.is(jobs == 5 ? 1 : 0, k.count(20000));
            due.is(jobs == 5 ? 0 : STATE, k.narrow());
        }
        for (int most = 19; most <= 20; most++) {
            NarrowingKernel k = Worlds.with(1, 7, 7);
            Worlds.ruleOf(k, LOAD, most, 0, 20, 1);
            due.is(most == 20 ? 1 : 0, k.count(20000));
            due.is(most == 20 ? 0 : STATE, k.narrow());
        }
        for (int need = 0; need <= 1; need++) {
            NarrowingKernel k = Worlds.with(2, 0, 3);
            Worlds.ruleOf(k, LOAD, 0, 0, need, 2, 2);
            due.is(need == 0 ? 16 : 0, k.count(20000));
            due.is(need == 0 ? 0 : STATE, k.narrow());
        }
    }

    private static void jobsOfNoLength() {
        due.about("1: LOAD: a length (0 .. 15): what has no length never runs");
        NarrowingKernel k = Worlds.with(6, 15, 15);
        Worlds.ruleOf(k, LOAD, 0, 0, 20, 0, 0, 0, 0, 0, 0);
        due.is(1, k.count(20000));
        due.is(0, k.narrow());
        // nor beside one that runs
        k = Worlds.with(2, 3, 3);
        Worlds.ruleOf(k, LOAD, 20, 0, 20, 5, 0);
        due.is(1, k.count(20000));
        due.is(0, k.narrow());
    }

    private static void jobsOneBehindTheOther() {
        due.about("1: LOAD: they run from their beginning on as many times as they are long");
        for (int length = 0; length <= 15; length++) {
            for (int begin = 0; begin <= 15; begin++) {
                NarrowingKernel k = new NarrowingKernel();
                k.unknown(0, 0);
                k.unknown(begin, begin);
                k.rule(LOAD, 1, 0);
                k.part(0, 0, length, 1);
                k.part(0, 1, 1, 1);
                due.is(begin >= length ? 1 : 0, k.count(20000));
                due.is(begin >= length ? 0 : STATE, k.narrow());
            }
        }
        // the longest from the last NUMBER on: 15 .. 29
        NarrowingKernel k = new NarrowingKernel();
        k.unknown(15, 15);
        k.unknown(0, 15);
        Worlds.ruleOf(k, LOAD, 1, 0, 1, 15, 15);
        due.is(1, k.count(20000));
        due.is(15, k.narrow());
        due.ranges(k, 0x8000, 1);
    }

    private static void ringOfOne() {
        due.about("1: RING of one PART: it is next to itself");
        NarrowingKernel k = Worlds.with(1, 0, 15);
        Worlds.ruleOf(k, RING, 0, 0, 0, 0);
        due.is(1, k.count(20000));
        due.is(15, k.takes(0));
        due.is(15, k.narrow());
        due.ranges(k, 1);
        k = Worlds.with(1, 1, 15);
        Worlds.ruleOf(k, RING, 0, 0, 0, 0);
        due.is(0, k.count(20000));
        due.is(15, k.takes(0));
        due.is(STATE, k.narrow());
    }

    private static void ringsNumbers() {
        due.about("1: RING: 0 .. as many as there are less 1; from PART 0 on all are come to, then PART 0 again");
        int[] rings = {1, 1, 1, 2, 6, 24, 120};
        for (int parts = 1; parts <= 6; parts++) {
            for (int greatest = parts - 1; greatest <= parts; greatest++) {
                NarrowingKernel k = Worlds.with(parts, 0, greatest);
                k.rule(RING, 0, 0);
                for (int x = 0; x < parts; x++) {
                    k.part(0, x, 0, 0);
                }
                due.is((greatest == parts ? parts : 0) + (parts == 1 ? 0 : parts), k.takes(0));
                k.step(0, IS_NOT, parts < 4 ? 15 : 1);
                due.is(parts < 4 ? rings[parts] : rings[parts] / (parts - 1) * (parts - 2), k.count(20000));
            }
        }
        int[][] none = {{1, 0, 3, 2}, {1, 2, 0, 3}, {1, 2, 3, 1}, {1, 2, 3, 3}, {0, 2, 3, 1}, {1, 2, 3, 4}};
        for (int[] next : none) {
            NarrowingKernel k = new NarrowingKernel();
            for (int v : next) {
                k.unknown(v, v);
            }
            Worlds.ruleOf(k, RING, 0, 0, 0, 0, 0, 0, 0);
            due.is(0, k.count(20000));
            due.is(STATE, k.narrow());
        }
    }

    private static void ringsParts() {
        due.about("1: RING: a NUMBER is a PART of the RULE, not an UNKNOWN");
        NarrowingKernel k = Worlds.with(3, 0, 2);
        k.rule(RING, 0, 0);
        k.part(0, 2, 0, 0);
        k.part(0, 1, 0, 0);
        due.is(2 + 2, k.narrow());
        due.ranges(k, 7, 1, 2);
        due.is(3, k.count(20000));
    }

    private static void clauseOfOne() {
        due.about("1: CLAUSE: of its LITERALS at least one is so");
        NarrowingKernel k = Worlds.with(6, 0, 1);
        Worlds.clauseOf(k, 0, IS_JUST, 1, 1, IS_JUST, 1, 2, IS_JUST, 1, 3, IS_JUST, 1, 4, IS_JUST, 1, 5, IS_JUST, 1);
        due.is(63, k.count(20000));
        k = Worlds.with(1, 0, 15);
        Worlds.clauseOf(k, 0, IS_JUST, 15, 0, IS_JUST, 15);
        due.is(1, k.count(20000));
        due.is(15, k.narrow());
    }

    private static void rulesWithoutParts() {
        due.about("1: without PARTS: SUM of nothing is 0; TABLE, CLAUSE none FITS; UNLIKE, LOAD, RING all FIT");
        int[][] rules = {
            {SUM, AT_MOST, 0, 1}, {SUM, AT_MOST, -1, 0}, {SUM, AT_MOST, 1, 1}, {SUM, AT_MOST, -1000, 0},
            {SUM, EXACTLY, 0, 1}, {SUM, EXACTLY, -1, 0}, {SUM, EXACTLY, 1, 0}, {SUM, EXACTLY, 1000, 0},
            {SUM, NOT, 0, 0}, {SUM, NOT, -1, 1}, {SUM, NOT, 1, 1}, {SUM, NOT, 1000, 1},
            {TABLE, 0, 0, 0}, {CLAUSE, 0, 0, 0}, {UNLIKE, 0, 0, 1}, {LOAD, 0, 0, 1}, {RING, 0, 0, 1}};
        for (int[] rule : rules) {
            boolean fits = rule[3] == 1;
            NarrowingKernel k = Worlds.with(2, 0, 1);
            k.rule(rule[0], rule[1], rule[2]);
            due.is(0, k.takes(0));
            due.is(fits ? 0 : STATE, k.narrow());
            due.is(fits ? 4 : 0, k.count(20000));
            due.is(fits ? 1 : 0, k.solve());
            due.is(fits ? 1 : NONE, k.best(1, true));
            due.is(fits ? 2 : 3, k.has(0, IS_JUST, 0));
            due.is(fits ? NONE : 0, k.core());
            due.is(fits ? STATE : 0, k.why(0, 0));
            Worlds.lineOf(k, 0);
            due.is(fits ? 0 : NONE, k.check());
            due.is(fits ? 0 : 1, k.refutes());
            // taken out it has no say
            k.stand(0, false);
            due.is(0, k.narrow());
            due.is(4, k.count(20000));
        }
    }

    private static final int[] LENGTHS = {2, 1, 3};
    private static final int[][] ROWS = {{0, 1, 2}, {3, 3, 0}, {1, 2, 0}, {2, 0, 1}, {2, 2, 2}, {0, 0, 0}};

    /** Three UNKNOWNS of 0 .. 3, TABLE 1 with the ROWS. */
    private static NarrowingKernel three() {
        NarrowingKernel k = Worlds.with(3, 0, 3);
        k.table(1, 2, 20);
        for (int i = 0; i < 18; i++) {
            k.cell(1, i, ROWS[i / 3][i % 3]);
        }
        return k;
    }

    /** SUM as x - 2 y + z, of each how; 3 and so on are the other kinds. */
    private static void tellRule(NarrowingKernel k, int which) {
        int kind = which < 3 ? SUM : which - 2;
        int r = k.rule(kind, which < 3 ? which : kind == TABLE ? 1 : 3, 1);
        for (int x = 0; x < 3; x++) {
            if (kind == CLAUSE) {
                k.literal(r, x, x == 1 ? IS_AT_MOST : IS_JUST, x + 1);
            } else {
                k.part(r, x, kind == LOAD ? LENGTHS[x] : x == 1 ? -2 : 1, 2);
            }
        }
    }

    private static boolean fits(int which, int... v) {
        int sum = v[0] - 2 * v[1] + v[2];
        switch (which) {
            case AT_MOST: return sum <= 1;
            case EXACTLY: return sum == 1;
            case NOT: return sum != 1;
            case UNLIKE + 2: return v[0] != v[1] && v[0] != v[2] && v[1] != v[2];
            case TABLE + 2:
                for (int[] row : ROWS) {
                    if (row[0] == v[0] && row[1] == v[1] && row[2] == v[2]) {
                        return true;
                    }
                }
                return false;
            case LOAD + 2:
                for (int time = 0; time < 8; time++) {
                    int load = 0;
                    for (int x = 0; x < 3; x++) {
                        load += v[x] <= time && time < v[x] + LENGTHS[x] ? 2 : 0;
                    }
                    if (load > 3) {
                        return false;
                    }
                }
                return true;
            case RING + 2: return v[0] == 1 && v[1] == 2 && v[2] == 0 || v[0] == 2 && v[1] == 0 && v[2] == 1;
            default: return v[0] == 1 || v[1] <= 2 || v[2] == 3;
        }
    }

    private static void answersOfTwoRules() {
        due.about("1: AN ANSWER FITS a RULE, if it is as the RULE says: each kind, and any two together");
        for (int one = 0; one < 8; one++) {
            for (int other = 0; other < 8; other++) {
                NarrowingKernel k = three();
                tellRule(k, one);
                tellRule(k, other);
                int most = 0;
                for (int i = 0; i < 64; i++) {
                    if (fits(one, i >> 4, i >> 2 & 3, i & 3) && fits(other, i >> 4, i >> 2 & 3, i & 3)) {
                        due.is(1, most == 0 ? k.solve() : k.next());
                        due.answers(k, i >> 4, i >> 2 & 3, i & 3);
                        most++;
                    }
                }
                due.is(most, k.count(20000));
                due.is(most == 0 ? STATE : 0, k.next());
            }
        }
    }

    // ---- 2

    private static void onlyWhatStandsTakes() {
        due.about("2: to let each RULE that STANDS take NUMBERS away");
        NarrowingKernel k = new NarrowingKernel();
        due.is(0, k.narrow());
        k.unknown(0, 15);
        due.is(0, k.narrow());
        Worlds.clauseOf(k, 0, IS_AT_MOST, 7);
        k.stand(0, false);
        due.is(0, k.narrow());
        due.ranges(k, 0xFFFF);
        k.stand(0, true);
        due.is(8, k.narrow());
        due.ranges(k, 0xFF);
    }

    private static void againAndAgain() {
        due.about("2: again and again, till none takes any");
        // each RULE takes but one NUMBER at a time, and the one before it goes first
        NarrowingKernel k = Worlds.with(2, 0, 15);
        for (int r = 0; r < 2; r++) {
            k.rule(SUM, AT_MOST, r == 0 ? 0 : -1);
            k.part(r, r, 1, 0);
            k.part(r, 1 - r, -1, 0);
        }
        due.is(0, k.takes(0));
        due.is(2, k.takes(1));
        due.is(STATE, k.narrow());
        due.ranges(k, 0xFFFF, 0xFFFF);
        k.stand(0, false);
        due.is(2, k.narrow());
        due.ranges(k, 0xFFFE, 0x7FFF);
        due.is(0, k.narrow());
        // RULE 1 takes of UNKNOWN x, whereupon RULE 0, that was looked at, takes of another one
        for (int x = 0; x < 10; x++) {
            for (int first = 0; first < 2; first++) {
                k = Worlds.with(10, 0, 3);
                int y = (x + 1) % 10;
                for (int r = 0; r < 2; r++) {
                    k.rule(r == first ? UNLIKE : CLAUSE, 0, 0);
                }
                k.part(first, x, 0, 0);
                k.part(first, y, 0, 0);
                k.literal(1 - first, x, IS_JUST, 2);
                due.is(3 + 1, k.narrow());
                due.is(4, k.range(x, 3));
                due.is(11, k.range(y, 3));
            }
        }
    }

    /** Ten UNKNOWNS round about: TABLE 0 has equals, TABLE 1 has v and v + 1, and 15 twice. */
    private static NarrowingKernel roundAbout(boolean backwards) {
        NarrowingKernel k = Worlds.with(10, 0, 15);
        for (int t = 0; t < 2; t++) {
            k.table(t, t, 32);
            for (int v = 0; v < 16; v++) {
                k.cell(t, 2 * v, v);
                k.cell(t, 2 * v + 1, Math.min(v + t, 15));
            }
        }
        for (int r = 0; r < 10; r++) {
            int x = backwards ? 9 - r : r;
            k.rule(TABLE, x == 9 ? 1 : 0, 0);
            k.part(r, x, 0, 0);
            k.part(r, (x + 1) % 10, 0, 0);
        }
        return k;
    }

    private static void againAndAgainForLong() {
        due.about("2: again and again, till none takes any: NUMBER after NUMBER, RULE after RULE");
        for (int backwards = 0; backwards < 2; backwards++) {
            // UNKNOWN 0 loses 0, 1 loses 0, .. 9 loses 0, 0 loses 1, 1 loses 1, .., till each has but 15
            NarrowingKernel k = roundAbout(backwards == 1);
            due.is(1, k.takes(backwards == 1 ? 0 : 9));
            due.is(1, k.count(20000));
            due.is(150, k.narrow());
            for (int x = 0; x < 10; x++) {
                due.is(0x8000, k.range(x, 3));
            }
            due.is(0, k.narrow());
            // DEAD only at the end of it
            k.hole(9, 15);
            due.is(STATE, k.narrow());
            due.is(0, k.count(20000));
            due.is(0xFFFF, k.range(0, 3));
        }
    }

    /** The bits of least .. greatest whose multiples, with the others from low to high, are not too many, or few. */
    private static int sumKeeps(int range, int m, int how, int bound, int low, int high) {
        int kept = 0;
        for (int v = 0; v < 16; v++) {
            boolean tooMany = m * v + low > bound;
            boolean tooFew = how == EXACTLY && m * v + high < bound;
            kept |= (range >> v & 1) != 0 && !tooMany && !tooFew ? 1 << v : 0;
        }
        return kept;
    }

    private static void sumsNarrowed() {
        due.about("2: SUM, at most: above the bound together; exactly: likewise, or below it");
        for (int bound = 4; bound <= 17; bound++) {
            for (int how = AT_MOST; how <= EXACTLY; how++) {
                // x of 1 .. 4 beside 2 y, which is 4 .. 12; y of 2 .. 6 beside x
                NarrowingKernel k = new NarrowingKernel();
                k.unknown(1, 4);
                k.unknown(2, 6);
                Worlds.ruleOf(k, SUM, how, bound, 0, 1, 2);
                int xs = sumKeeps(0x1E, 1, how, bound, 4, 12);
                int ys = sumKeeps(0x7C, 2, how, bound, 1, 4);
                due.is(9 - Integer.bitCount(xs) - Integer.bitCount(ys), k.takes(0));
                if (bound == 4 || bound == 17) {
                    due.is(how == EXACTLY || bound == 4 ? STATE : 0, k.narrow());
                }
            }
        }
    }

    private static void sumsOfNegativesNarrowed() {
        due.about("2: SUM: the least that a PART can be, if its multiple is below 0, is of its greatest NUMBER");
        for (int bound = -9; bound <= 2; bound++) {
            for (int how = AT_MOST; how <= EXACTLY; how++) {
                // x of 1 .. 4 beside y, which is 0 .. 3; y beside -2 x, which is -8 .. -2
                NarrowingKernel k = new NarrowingKernel();
                k.unknown(1, 4);
                k.unknown(0, 3);
                Worlds.ruleOf(k, SUM, how, bound, 0, -2, 1);
                int xs = sumKeeps(0x1E, -2, how, bound, 0, 3);
                int ys = sumKeeps(0xF, 1, how, bound, -8, -2);
                due.is(8 - Integer.bitCount(xs) - Integer.bitCount(ys), k.takes(0));
            }
        }
    }

    private static void sumNotNarrowed() {
        due.about("2: SUM, not: if the others have one NUMBER each, and it would be just the bound");
        NarrowingKernel k = Worlds.with(3, 0, 3);
        Worlds.ruleOf(k, SUM, NOT, 4, 0, 1, 1, 1);
        due.is(0, k.takes(0));
        k.step(0, IS_JUST, 1);
        due.is(0, k.takes(0));
        k.step(1, IS_JUST, 1);
        due.is(1, k.takes(0));
        due.is(1, k.narrow());
        due.ranges(k, 2, 2, 0xB);
        // of the others, not of all: with all of one NUMBER each, each of them goes
        k.undo(0);
        k.step(0, IS_JUST, 0);
        k.step(1, IS_JUST, 1);
        k.step(2, IS_JUST, 3);
        due.is(3, k.takes(0));
        due.is(STATE, k.narrow());
        // just the bound: one beside it stays
        for (int v = 0; v <= 3; v++) {
            k.undo(0);
            k.step(0, IS_JUST, v);
            k.step(1, IS_JUST, 0);
            due.is(v == 0 ? 0 : 1, k.takes(0));
        }
        // no others at all: they have one NUMBER each
        k = Worlds.with(1, 0, 15);
        Worlds.ruleOf(k, SUM, NOT, 9, 0, 3);
        due.is(1, k.takes(0));
        k = Worlds.with(1, 0, 15);
        Worlds.ruleOf(k, SUM, NOT, 10, 0, 3);
        due.is(0, k.takes(0));
    }

    private static void unlikesNarrowed() {
        due.about("2: UNLIKE: if there is no way to give each PART a NUMBER, all unlike, with this one");
        NarrowingKernel k = new NarrowingKernel();
        int[][] ranges = {{1, 2}, {1, 2}, {1, 3}, {2, 5}, {5, 6}, {0, 15}};
        for (int[] range : ranges) {
            k.unknown(range[0], range[1]);
        }
        Worlds.ruleOf(k, UNLIKE, 0, 0, 0, 0, 0, 0, 0, 0, 0);
        // 0 and 1 take 1 and 2, so that 2 is 3
        due.is(2 + 2 + 3, k.takes(0));
        due.is(2 + 2 + 3, k.narrow());
        due.ranges(k, 6, 6, 8, 0x30, 0x60, 0xFFFF & ~0xE);
        k.step(4, IS_JUST, 5);
        due.is(3, k.narrow());
        due.ranges(k, 6, 6, 8, 0x10, 0x20, 0xFFFF & ~0x3E);
        // as many PARTS as NUMBERS, and one more
        for (int parts = 2; parts <= 6; parts++) {
            for (int numbers = parts - 1; numbers <= parts; numbers++) {
                k = Worlds.with(parts, 3, 2 + numbers);
                k.rule(UNLIKE, 0, 0);
                for (int x = 0; x < parts; x++) {
                    k.part(0, x, 0, 0);
                }
                due.is(numbers < parts ? parts * numbers : 0, k.takes(0));
                due.is(numbers < parts ? STATE : 0, k.narrow());
            }
        }
    }

    private static void tablesNarrowed() {
        due.about("2: TABLE: if no ROW has v there, and elsewhere NUMBERS of the RANGES");
        NarrowingKernel k = Worlds.with(3, 0, 3);
        Worlds.tableOf(k, 1, 0, 0, 0, 1, 1, 1, 2, 2, 0, 2, 1, 3);
        Worlds.ruleOf(k, TABLE, 1, 0, 0, 0, 0, 0);
        due.is(1 + 1 + 1, k.takes(0));
        k.step(2, IS_AT_MOST, 1);
        due.is(1 + 1, k.takes(0));
        k.step(0, IS_JUST, 2);
        due.is(3 + 1, k.takes(0));
        due.is(4, k.narrow());
        due.ranges(k, 4, 4, 1);
        // one cell of a ROW out of its RANGE: the row does not count, whichever cell it is
        for (int x = 0; x < 3; x++) {
            k.undo(0);
            k.step(x, IS_AT_LEAST, 1);
            due.is(x == 0 ? 1 + 2 + 1 : x == 1 ? 2 + 1 + 1 : 2 + 3 + 1, k.takes(0));
        }
    }

    private static void loadsNarrowed() {
        due.about("2: LOAD: a job must run from the greatest NUMBER of its RANGE to ahead of the least and its length");
        for (int length = 0; length <= 6; length++) {
            // job 0 of 3 .. 5 must run at 5 .. 2 + length; job 1 runs for one time
            NarrowingKernel k = new NarrowingKernel();
            k.unknown(3, 5);
            k.unknown(0, 9);
            k.rule(LOAD, 4, 0);
            k.part(0, 0, length, 3);
            k.part(0, 1, 1, 2);
            int ys = 0x3FF;
            for (int time = 5; time < 3 + length; time++) {
                ys &= ~(1 << time);
            }
            due.is(10 - Integer.bitCount(ys), k.takes(0));
            due.is(10 - Integer.bitCount(ys), k.narrow());
            due.ranges(k, 0x38, ys);
            // the same at most 5, which both need together
            k.stand(0, false);
            k.rule(LOAD, 5, 0);
            k.part(1, 0, length, 3);
            k.part(1, 1, 1, 2);
            due.is(0, k.takes(1));
        }
    }

    private static void loadOfItAndAllOther() {
        due.about("2: LOAD: the needs of it and of all other jobs that must run then");
        // its own need counts once, also where it must run itself
        NarrowingKernel k = Worlds.with(1, 4, 4);
        Worlds.ruleOf(k, LOAD, 3, 0, 3, 4);
        due.is(0, k.takes(0));
        k = Worlds.with(2, 4, 5);
        Worlds.ruleOf(k, LOAD, 6, 0, 3, 4, 4);
        due.is(0, k.takes(0));
        k = Worlds.with(2, 4, 5);
        Worlds.ruleOf(k, LOAD, 5, 0, 3, 4, 4);
        due.is(4, k.takes(0));
        // it goes too, if it needs nothing, where the others are too many
        k = new NarrowingKernel();
        k.unknown(4, 4);
        k.unknown(0, 6);
        k.rule(LOAD, 2, 0);
        k.part(0, 0, 1, 3);
        k.part(0, 1, 2, 0);
        due.is(1 + 2, k.takes(0));
        // and stays, if it has no length
        k.rule(LOAD, 2, 0);
        k.part(1, 0, 1, 3);
        k.part(1, 1, 0, 20);
        due.is(1, k.takes(1));
    }

    private static void ringsNarrowed() {
        due.about("2: RING: v above the last PART; v that is the PART itself, if there are more");
        NarrowingKernel k = Worlds.with(3, 0, 15);
        Worlds.ruleOf(k, RING, 0, 0, 0, 0, 0, 0);
        due.is(3 * 13 + 3, k.takes(0));
        due.is(3 * 13 + 3, k.narrow());
        due.ranges(k, 6, 5, 3);
        // one that has but the first NUMBER above the last PART leads nowhere
        for (int parts = 2; parts <= 6; parts++) {
            k = new NarrowingKernel();
            k.unknown(parts, parts);
            k.rule(RING, 0, 0);
            k.part(0, 0, 0, 0);
            for (int x = 1; x < parts; x++) {
                k.unknown(0, 15);
                k.part(0, x, 0, 0);
            }
            // it, and of each other one those above, and itself
            due.is(1 + (parts - 1) * (16 - parts + 1), k.takes(0));
        }
    }

    private static void ringsClosedTooSoon() {
        due.about("2: RING: v, if PARTS of one NUMBER each lead from PART v to this one, and some are not among them");
        NarrowingKernel k = Worlds.with(5, 0, 4);
        Worlds.ruleOf(k, RING, 0, 0, 0, 0, 0, 0, 0, 0);
        k.narrow();
        k.step(1, IS_JUST, 2);
        // PART 2 may not be next to 1 again; 2 is taken by UNLIKE
        due.is(1 + 3, k.takes(0));
        k.narrow();
        k.step(2, IS_JUST, 3);
        k.narrow();
        due.ranges(k, 0x12, 4, 8, 0x11, 3);
        k.step(3, IS_JUST, 4);
        // 1, 2, 3, 4 lead to 4: 4 is next to 0, and all are among 0, 1, 2, 3, 4
        due.is(2, k.narrow());
        due.ranges(k, 2, 4, 8, 0x10, 1);
        due.is(0, k.takes(0));
        // one that has two NUMBERS does not lead
        k = Worlds.with(3, 0, 2);
        Worlds.ruleOf(k, RING, 0, 0, 0, 0, 0, 0);
        k.step(0, IS_AT_LEAST, 1);
        k.step(1, IS_NOT, 1);
        k.step(2, IS_NOT, 2);
        due.is(0, k.takes(0));
    }

    private static void clausesNarrowed() {
        due.about("2: CLAUSE: if its other LITERALS are false, and with v this one is");
        NarrowingKernel k = Worlds.with(3, 2, 5);
        Worlds.clauseOf(k, 0, IS_AT_MOST, 1, 1, IS_AT_LEAST, 6, 2, IS_JUST, 5);
        due.is(3, k.narrow());
        due.ranges(k, 0x3C, 0x3C, 0x20);
        // one NUMBER that makes another one so: nothing goes
        k = Worlds.with(3, 2, 5);
        Worlds.clauseOf(k, 0, IS_AT_MOST, 1, 1, IS_AT_LEAST, 5, 2, IS_JUST, 5);
        due.is(0, k.narrow());
        // all are false: all goes
        k = Worlds.with(3, 2, 5);
        Worlds.clauseOf(k, 0, IS_AT_MOST, 1, 1, IS_AT_LEAST, 6, 2, IS_JUST, 6);
        due.is(12, k.takes(0));
        due.is(STATE, k.narrow());
        // one LITERAL alone
        k = Worlds.with(1, 2, 5);
        Worlds.clauseOf(k, 0, IS_NOT, 5);
        due.is(1, k.takes(0));
    }

    private static void clausesOfOneUnknown() {
        due.about("2: CLAUSE: of several LITERALS of one UNKNOWN: v goes, if it is false with all that are not");
        NarrowingKernel k = Worlds.with(2, 0, 5);
        Worlds.clauseOf(k, 0, IS_JUST, 0, 1, IS_AT_LEAST, 6, 0, IS_AT_LEAST, 5, 0, IS_JUST, 9);
        due.is(4, k.takes(0));
        due.is(4, k.narrow());
        due.ranges(k, 0x21, 0x3F);
        // of two UNKNOWNS that are not false: nothing goes
        k = Worlds.with(2, 0, 5);
        Worlds.clauseOf(k, 0, IS_JUST, 0, 1, IS_AT_LEAST, 5, 0, IS_AT_LEAST, 5, 0, IS_JUST, 9);
        due.is(0, k.takes(0));
        // always so by itself: nothing goes, and the other one is let alone
        k = Worlds.with(2, 0, 5);
        Worlds.clauseOf(k, 0, IS_AT_MOST, 2, 0, IS_AT_LEAST, 3, 1, IS_JUST, 9);
        due.is(0, k.takes(0));
    }

    private static void dead() {
        due.about("2: DEAD: a RANGE comes to have no NUMBER");
        NarrowingKernel k = Worlds.with(2, 0, 1);
        k.rule(SUM, AT_MOST, -1);
        k.part(0, 1, 1, 0);
        due.is(STATE, k.narrow());
        due.is(2, k.takes(0));
        due.is(0, k.count(20000));
        due.ranges(k, 3, 3);
        due.about("2: or a RULE without PARTS that none FITS STANDS");
        k = new NarrowingKernel();
        k.rule(CLAUSE, 0, 0);
        due.is(STATE, k.narrow());
        k.stand(0, false);
        due.is(0, k.narrow());
    }

    private static void inWhateverOrder() {
        due.about("2: in whatever order RULES are looked at, it ends likewise");
        int[][] orders = {{0, 1, 2}, {0, 2, 1}, {1, 0, 2}, {1, 2, 0}, {2, 0, 1}, {2, 1, 0}};
        for (int greatest = 2; greatest <= 4; greatest++) {
            for (int[] order : orders) {
                NarrowingKernel k = Worlds.with(4, 0, greatest);
                for (int r = 0; r < 3; r++) {
                    // below the next one
                    k.rule(SUM, AT_MOST, -1);
                    k.part(r, order[r], 1, 0);
                    k.part(r, order[r] + 1, -1, 0);
                }
                due.is(greatest == 2 ? STATE : 12, k.narrow());
                due.ranges(k, greatest == 2 ? 7 : greatest == 3 ? 1 : 3, greatest == 2 ? 7 : greatest == 3 ? 2 : 6);
            }
        }
    }

    // ---- 3

    private static void sixTables() {
        due.about("3: TABLES 0 .. 5: none (MISSING, at first)");
        NarrowingKernel k = new NarrowingKernel();
        for (int t = 0; t < 6; t++) {
            due.is(NULL, k.get(t, 0));
            due.is(1, k.tear(t));
            due.is(t, k.total(5));
            due.is(1, k.table(t, 0, 1));
            due.is(1, k.cell(t, 0, t));
        }
        for (int t = 0; t < 6; t++) {
            due.is(t, k.get(t, 0));
        }
        due.is(BAD, k.get(6, 0));
        due.is(BAD, k.get(-1, 0));
    }

    private static void cellsOfATable() {
        due.about("3: a row of 0 .. 48 cells, each 0 at first");
        for (int n = 0; n <= 48; n++) {
            NarrowingKernel k = new NarrowingKernel();
            due.is(n, k.table(3, 0, n));
            due.is(1, k.total(5));
            for (int i = 0; i < n; i++) {
                due.is(0, k.get(3, i));
            }
            due.is(PLACE, k.get(3, n));
            due.is(PLACE, k.get(3, -1));
        }
        // a longer row where a shorter one was, and the other way: 0 again, all of it
        NarrowingKernel k = new NarrowingKernel();
        k.table(3, 0, 48);
        for (int i = 0; i < 48; i++) {
            k.cell(3, i, 15);
        }
        k.table(3, 0, 2);
        due.is(PLACE, k.get(3, 2));
        k.table(3, 0, 48);
        for (int i = 0; i < 48; i++) {
            due.is(0, k.get(3, i));
        }
        k.cell(3, 47, 15);
        k.tear(3);
        k.table(3, 0, 48);
        due.is(0, k.get(3, 47));
    }

    private static void lanes() {
        due.about("3: a LANE: 0 bytes, 1 ints, 2 longs");
        for (int lane = -1; lane <= 3; lane++) {
            NarrowingKernel k = new NarrowingKernel();
            boolean may = lane >= 0 && lane <= 2;
            due.is(may ? 2 : BAD, k.table(0, lane, 2));
            due.is(may ? 1 : NULL, k.cell(0, 1, 15));
            due.is(may ? 15 : NULL, k.get(0, 1));
        }
    }

    private static void rulesOfMissingTables() {
        due.about("3: a RULE of a TABLE that is MISSING: none FITS it");
        NarrowingKernel k = Worlds.with(2, 0, 3);
        Worlds.tableOf(k, 4, 0, 1, 2, 3);
        Worlds.ruleOf(k, TABLE, 4, 0, 0, 0, 0);
        due.is(2, k.count(20000));
        k.tear(4);
        due.is(0, k.count(20000));
        due.is(8, k.takes(0));
        due.is(STATE, k.narrow());
        Worlds.lineOf(k, 0);
        due.is(NONE, k.check());
        due.is(0, k.total(4));
        Worlds.tableOf(k, 4, 0, 1, 2, 3);
        due.is(2, k.count(20000));
        due.is(0, k.check());
    }

    private static void fortyLines() {
        due.about("3: LINES 0 .. 39, each a CLAUSE of at most 6 LITERALS");
        NarrowingKernel k = Worlds.with(1, 0, 15);
        for (int l = 0; l < 40; l++) {
            due.is(l, k.line(NONE));
            due.is(1, k.says(l, 0, IS_AT_MOST, 15));
        }
        due.is(FULL, k.line(NONE));
        for (int l = 0; l < 40; l += 39) {
            for (int n = 2; n <= 6; n++) {
                due.is(n, k.says(l, 0, IS_AT_MOST, n));
            }
            due.is(FULL, k.says(l, 0, IS_AT_MOST, 15));
        }
        due.is(UNKNOWN, k.says(40, 0, IS_AT_MOST, 15));
        due.is(NONE, k.check());
        k.forge(39, 0, IS_AT_MOST, 14);
        due.is(39, k.check());
    }

    private static void wrongOnlyWithAllFalse() {
        due.about("3: none that FIT the RULE make all LITERALS of the LINE false");
        // 0 + 1 is 3: 1 alone and 2 alone are not always so, both together are
        NarrowingKernel k = Worlds.with(2, 1, 2);
        Worlds.ruleOf(k, SUM, EXACTLY, 3, 0, 1, 1);
        Worlds.lineOf(k, 0, 0, IS_JUST, 1, 1, IS_JUST, 1);
        due.is(NONE, k.check());
        k.forge(0, 1, IS_JUST, 2);
        due.is(0, k.check());
        // a LINE without LITERALS: all of none are false
        k.forge(0, 1, IS_JUST, 1);
        k.line(0);
        due.is(1, k.check());
        k.hole(0, 1);
        k.hole(1, 1);
        due.is(NONE, k.check());
    }

    private static void waysOfALine() {
        due.about("3: (FAR: more than 20000 ways to choose them)");
        // 10 x 10 x 10 x 10 x 2 of the RULE's and the LINE's together
        NarrowingKernel k = Worlds.with(4, 0, 9);
        k.unknown(0, 1);
        k.unknown(0, 15);
        k.rule(UNLIKE, 0, 0);
        for (int x = 0; x < 3; x++) {
            k.part(0, x, 0, 0);
        }
        Worlds.lineOf(k, 0, 3, IS_AT_MOST, 9, 4, IS_AT_MOST, 0, 2, IS_AT_MOST, 3);
        due.is(NONE, k.check());
        k.hole(5, 0);
        k.says(0, 5, IS_NOT, 0);
        due.is(FAR, k.check());
        // 4 x 5 x 7 x 11 x 13 is 20020, and 4 x 5 x 7 x 11 x 12 is not too many
        for (int greatest = 11; greatest <= 12; greatest++) {
            k = Worlds.far();
            if (greatest == 11) {
                k.hole(4, 12);
            }
            k.rule(UNLIKE, 0, 0);
            for (int x = 0; x < 5; x++) {
                k.part(1, x, 0, 0);
            }
            k.line(1);
            due.is(greatest == 11 ? 0 : FAR, k.check());
        }
        // so many that an int, and a long, go round
        k = Worlds.with(10, 0, 15);
        k.rule(UNLIKE, 0, 0);
        for (int x = 0; x < 6; x++) {
            k.part(0, x, 0, 0);
        }
        k.line(0);
        due.is(FAR, k.check());
        k.says(0, 6, IS_JUST, 0);
        k.says(0, 7, IS_JUST, 0);
        due.is(FAR, k.check());
        k.says(0, 8, IS_JUST, 0);
        k.says(0, 9, IS_JUST, 0);
        due.is(FAR, k.check());
        due.is(FAR, k.refutes());
    }

    private static void linesByLinesAlone() {
        due.about("3: RANGES TOLD .. come to be DEAD by NARROWING with the CLAUSES of the LINES ahead of it alone");
        NarrowingKernel k = Worlds.with(2, 0, 15);
        Worlds.clauseOf(k, 0, IS_AT_MOST, 0);
        // RULES have no say
        k.line(NONE);
        due.is(0, k.check());
        k.says(0, 0, IS_AT_MOST, 0);
        due.is(0, k.check());
        // no LINES ahead: right, if its LITERALS leave no NUMBER
        k.says(0, 0, IS_AT_LEAST, 2);
        due.is(0, k.check());
        k.says(0, 0, IS_JUST, 1);
        due.is(NONE, k.check());
        // of more ways than 20000: never FAR
        k = Worlds.with(10, 0, 15);
        Worlds.lineOf(k, NONE, 9, IS_AT_MOST, 14, 9, IS_JUST, 15);
        due.is(NONE, k.check());
    }

    // ---- 4

    private static void constants() {
        due.about("4: FINDINGS and REFUSALS");
        int[] want = {-1, -2, -3, -4, -5, -9, -11, -12, -13, -14};
        int[] got = {NarrowingKernel.UNKNOWN, NarrowingKernel.BAD, NarrowingKernel.STATE, NarrowingKernel.FULL,
            NarrowingKernel.FAR, NarrowingKernel.NONE, NarrowingKernel.NULL, NarrowingKernel.PLACE,
            NarrowingKernel.CAST, NarrowingKernel.SIZE};
        for (int i = 0; i < want.length; i++) {
            due.is(want[i], got[i]);
        }
    }

    private static void findingsAreCounted() {
        due.about("4: each FINDING is counted");
        NarrowingKernel k = Worlds.with(1, 0, 1);
        k.rule(SUM, 0, 0);
        k.rule(CLAUSE, 0, 0);
        k.table(1, 0, 1);
        int counted = 0;
        due.is(NULL, k.cell(0, 0, 0));
        due.is(++counted, k.total(4));
        due.is(NULL, k.copy(0, 0, 1, 0, 0));
        due.is(++counted, k.total(4));
        due.is(NULL, k.copy(1, 0, 0, 0, 0));
        due.is(++counted, k.total(4));
        due.is(NULL, k.copy(0, 0, 0, 0, 0));
        due.is(++counted, k.total(4));
        due.is(NULL, k.get(0, 0));
        due.is(++counted, k.total(4));
        due.is(PLACE, k.cell(1, 1, 0));
        due.is(++counted, k.total(4));
        due.is(PLACE, k.copy(1, 0, 1, 0, 2));
        due.is(++counted, k.total(4));
        due.is(PLACE, k.get(1, 1));
        due.is(++counted, k.total(4));
        due.is(CAST, k.part(1, 0, 1, 1));
        due.is(++counted, k.total(4));
        due.is(CAST, k.literal(0, 0, 0, 0));
        due.is(++counted, k.total(4));
        due.is(CAST, k.about(0, 1));
        due.is(++counted, k.total(4));
        due.is(SIZE, k.table(0, 0, -1));
        due.is(++counted, k.total(4));
        // those that the machine does not find are not
        due.is(BAD, k.get(6, 0));
        due.is(UNKNOWN, k.about(2, 0));
        due.is(STATE, k.narrow());
        due.is(NONE, k.reason(0));
        due.is(counted, k.total(4));
        // a bound that is as a FINDING is none
        k.rule(SUM, 0, CAST);
        due.is(CAST, k.about(2, 0));
        due.is(counted, k.total(4));
    }

    private static void brimOfWays() {
        due.about("4: FAR (more than 20000 ways to choose a NUMBER for each UNKNOWN out of the RANGES, narrowed)");
        NarrowingKernel k = Worlds.with(4, 0, 9);
        k.unknown(0, 1);
        due.is(20000, k.count(20000));
        due.is(1, k.solve());
        due.is(1, k.next());
        due.is(9, k.best(0, true));
        due.is(2, k.has(0, IS_JUST, 9));
        due.is(NONE, k.core());
        // UNKNOWNS that have one NUMBER make no more ways
        for (int x = 5; x < 10; x++) {
            k.unknown(15, 15);
        }
        due.is(20000, k.count(20000));
        k = Worlds.far();
        due.is(FAR, k.count(20000));
        due.is(FAR, k.solve());
        due.is(FAR, k.next());
        due.is(FAR, k.best(0, true));
        due.is(FAR, k.has(0, IS_JUST, 0));
        due.is(FAR, k.core());
        // 18480 of them
        k.hole(4, 12);
        due.is(18480, k.count(20000));
        due.is(1, k.next());
        due.is(NONE, k.core());
    }

    private static void waysThatGoRound() {
        due.about("4: FAR, also for so many ways that an int goes round");
        for (int unknowns = 7; unknowns <= 10; unknowns++) {
            NarrowingKernel k = Worlds.with(unknowns, 0, 15);
            due.is(FAR, k.count(1));
            due.is(FAR, k.solve());
            due.is(FAR, k.best(0, false));
            due.is(FAR, k.has(0, IS_AT_MOST, 15));
            due.is(FAR, k.core());
        }
    }

    private static void waysAreOfNarrowedRanges() {
        due.about("4: FAR: out of the RANGES, narrowed");
        NarrowingKernel k = Worlds.far();
        due.is(0, k.stand(0, false));
        // narrowed on the way, without a call of narrow()
        k.stand(0, true);
        due.is(5, k.count(20000));
        due.is(13, k.range(4, 0));
        k.stand(0, false);
        // by STEPS, too
        k.step(0, IS_NOT, 0);
        due.is(15015, k.count(20000));
        k.undo(0);
        due.is(FAR, k.count(20000));
        // DEAD: no ways at all
        k.rule(CLAUSE, 0, 0);
        due.is(0, k.count(20000));
        due.is(0, k.solve());
        due.is(0, k.core());
    }

    private static void stateWhileThereAreSteps() {
        due.about("4: STATE, while there are STEPS");
        NarrowingKernel k = Worlds.with(2, 0, 3);
        k.rule(SUM, AT_MOST, 9);
        k.rule(CLAUSE, 0, 0);
        k.stand(1, false);
        k.table(0, 0, 2);
        for (int steps = 2; steps >= 0; steps--) {
            if (steps == 2) {
                k.step(0, IS_AT_MOST, 3);
                k.step(0, IS_AT_MOST, 3);
            }
            k.undo(steps);
            boolean may = steps == 0;
            due.is(may ? 2 : STATE, k.unknown(0, 3));
            due.is(may ? 3 : STATE, k.hole(1, 3));
            due.is(may ? 2 : STATE, k.rule(UNLIKE, 0, 0));
            due.is(may ? 1 : STATE, k.part(0, 0, 1, 0));
            due.is(may ? 1 : STATE, k.literal(1, 0, 0, 3));
            due.is(may ? 0 : STATE, k.stand(1, true));
            due.is(may ? 3 : STATE, k.table(1, 0, 3));
            due.is(may ? 0 : STATE, k.tear(1));
            due.is(may ? 1 : STATE, k.cell(0, 0, 7));
            due.is(may ? 1 : STATE, k.copy(0, 0, 0, 1, 1));
            due.is(may ? 7 : 0, k.get(0, 1));
            due.is(9, k.about(0, 0));
            // of proofs nothing is said of STEPS
            due.is(2 - steps, k.line(NONE));
            due.is(1, k.says(2 - steps, 0, IS_AT_MOST, 3));
        }
    }

    /** UNKNOWNS 0 and 1 are narrowed from 0 .. 3 to 0 .. 1 by the RULES 0 and 1. */
    private static NarrowingKernel narrowed() {
        NarrowingKernel k = Worlds.with(2, 0, 3);
        Worlds.clauseOf(k, 0, IS_AT_MOST, 1);
        Worlds.clauseOf(k, 1, IS_AT_MOST, 1);
        k.rule(UNLIKE, 0, 0);
        k.rule(CLAUSE, 0, 0);
        k.stand(3, false);
        k.table(0, 0, 3);
        due.is(4, k.narrow());
        due.ranges(k, 3, 3);
        return k;
    }

    private static int tell(NarrowingKernel k, int call) {
        switch (call) {
            case 0: return k.unknown(5, 5);
            case 1: return k.hole(0, 3);
            case 2: return k.rule(UNLIKE, 0, 0);
            case 3: return k.part(2, 0, 0, 0);
            case 4: return k.literal(3, 0, 0, 0);
            case 5: return k.stand(1, false);
            case 6: return k.table(1, 0, 0);
            case 7: return k.tear(0);
            case 8: return k.cell(0, 0, 0);
            case 9: return k.copy(0, 0, 0, 1, 1);
            case 10: return k.get(0, 0);
            default: return k.about(2, 1);
        }
    }

    private static void rangesComeToBeAsTold() {
        due.about("4: each call from here to copy() that does something lets all RANGES be as TOLD");
        int[] answers = {2, 3, 4, 1, 1, 1, 0, 0, 1, 1, 0, CAST};
        for (int call = 0; call < 12; call++) {
            NarrowingKernel k = narrowed();
            due.is(answers[call], tell(k, call));
            boolean told = call < 10;
            due.ranges(k, !told ? 3 : call == 1 ? 7 : 15, told ? 15 : 3);
            due.is(call == 1 ? 7 : 15, k.range(0, 4));
        }
    }

    private static void rangesComeToBeAsToldByWhatMakesNoDifference() {
        due.about("4: does something: is not refused, also where all stands as it stood (a reading: NOTES.md)");
        for (int call = 0; call < 6; call++) {
            NarrowingKernel k = narrowed();
            int answer = call == 0 ? k.stand(0, true) : call == 1 ? k.stand(3, false) : call == 2 ? k.table(0, 0, 3)
                    : call == 3 ? k.tear(5) : call == 4 ? k.cell(0, 1, 0) : k.copy(0, 3, 0, 0, 0);
            int[] answers = {1, 0, 3, 1, 1, 0};
            due.is(answers[call], answer);
            due.ranges(k, 15, 15);
        }
    }

    private static void rangesStayByWhatIsRefused() {
        due.about("4: .. that does something: what is refused, found does not let RANGES be as TOLD");
        NarrowingKernel k = narrowed();
        due.is(BAD, k.unknown(5, 4));
        due.is(STATE, k.hole(0, 9));
        due.is(BAD, k.rule(6, 0, 0));
        due.is(CAST, k.part(3, 0, 0, 0));
        due.is(CAST, k.literal(2, 0, 0, 0));
        due.is(UNKNOWN, k.stand(4, true));
        due.is(SIZE, k.table(0, 0, -1));
        due.is(BAD, k.tear(6));
        due.is(PLACE, k.cell(0, 3, 0));
        due.is(NULL, k.copy(0, 0, 5, 0, 0));
        due.ranges(k, 3, 3);
        due.is(5, k.total(4));
    }

    public static void main(String[] args) {
        callsOfOneObject();
        objectsAreApart();
        unknownsOfNumbers();
        toldAndNow();
        twelveSteps();
        sortsOfLiterals();
        literalsOfOneNumber();
        answerOfNoUnknowns();
        sixteenRules();
        standsAtFirst();
        sixParts();
        sumAtItsBound();
        sumsMultiples();
        greatestSums();
        sumsBound();
        unlikes();
        rowsOfATable();
        lastRowCutShort();
        tableWithoutParts();
        fullTable();
        loadAtItsMost();
        jobsOfNoLength();
        jobsOneBehindTheOther();
        ringOfOne();
        ringsNumbers();
        ringsParts();
        clauseOfOne();
        rulesWithoutParts();
        answersOfTwoRules();
        onlyWhatStandsTakes();
        againAndAgain();
        againAndAgainForLong();
        sumsNarrowed();
        sumsOfNegativesNarrowed();
        sumNotNarrowed();
        unlikesNarrowed();
        tablesNarrowed();
        loadsNarrowed();
        loadOfItAndAllOther();
        ringsNarrowed();
        ringsClosedTooSoon();
        clausesNarrowed();
        clausesOfOneUnknown();
        dead();
        inWhateverOrder();
        sixTables();
        cellsOfATable();
        lanes();
        rulesOfMissingTables();
        fortyLines();
        wrongOnlyWithAllFalse();
        waysOfALine();
        linesByLinesAlone();
        constants();
        findingsAreCounted();
        brimOfWays();
        waysThatGoRound();
        waysAreOfNarrowedRanges();
        stateWhileThereAreSteps();
        rangesComeToBeAsTold();
        rangesComeToBeAsToldByWhatMakesNoDifference();
        rangesStayByWhatIsRefused();
        due.end();
    }
}
