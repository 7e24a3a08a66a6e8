/** Promises 1 to 13: the last value that is taken and the first that is refused, what is empty, what is full. */
public final class BoundsOfToldTest {
    private static final int UNKNOWN = -1, BAD = -2, STATE = -3, FULL = -4, NONE = -9;
    private static final int NULL = -11, PLACE = -12, CAST = -13, SIZE = -14;
    private static final int SUM = 0, UNLIKE = 1, TABLE = 2, LOAD = 3, RING = 4, CLAUSE = 5;
    private static final int AT_MOST = 0, NOT = 2;
    private static final int IS_AT_MOST = 0, IS_AT_LEAST = 1, IS_JUST = 3;
    private static final Due due = new Due("BoundsOfToldTest");

    private static void newObject() {
        due.about("1: No UNKNOWNS, RULES, STEPS, LINES; all TABLES are MISSING");
        NarrowingKernel k = new NarrowingKernel();
        for (int what = 0; what < 6; what++) {
            due.is(0, k.total(what));
        }
        due.is(UNKNOWN, k.range(0, 0));
        due.is(UNKNOWN, k.takes(0));
        due.is(BAD, k.undo(1));
        due.is(UNKNOWN, k.says(0, 0, 0, 0));
        for (int t = 0; t < 6; t++) {
            due.is(NULL, k.get(t, 0));
        }
        due.is(NONE, k.reason(0));
        due.is(STATE, k.next());
        due.is(0, k.narrow());
        due.is(NONE, k.check());
        due.is(0, k.refutes());
    }

    private static void unknownsRange() {
        due.about("2: a RANGE from one NUMBER to another one; BAD: not 0 .. 15, or least is above");
        for (int least = -2; least <= 17; least++) {
            for (int greatest = -2; greatest <= 17; greatest++) {
                boolean may = 0 <= least && least <= greatest && greatest <= 15;
                NarrowingKernel k = new NarrowingKernel();
                due.is(may ? 0 : BAD, k.unknown(least, greatest));
                due.is(may ? 1 : 0, k.total(0));
                due.is(may ? greatest - least + 1 : UNKNOWN, k.range(0, 0));
                due.is(may ? least : UNKNOWN, k.range(0, 1));
                due.is(may ? greatest : UNKNOWN, k.range(0, 2));
                due.is(may ? k.range(0, 3) : UNKNOWN, k.range(0, 4));
            }
        }
    }

    private static void tenUnknowns() {
        due.about("2: its number; FULL: 10");
        NarrowingKernel k = new NarrowingKernel();
        for (int x = 0; x < 10; x++) {
            due.is(x, k.unknown(x, 15));
        }
        due.is(FULL, k.unknown(0, 15));
        due.is(FULL, k.unknown(15, 15));
        due.is(10, k.total(0));
        for (int x = 0; x < 10; x++) {
            due.is(x, k.range(x, 1));
        }
    }

    private static void unknownWhileSteps() {
        due.about("2: STATE");
        NarrowingKernel k = Worlds.with(1, 0, 1);
        k.step(0, IS_JUST, 0);
        due.is(STATE, k.unknown(0, 15));
        due.is(1, k.total(0));
        k.undo(0);
        due.is(1, k.unknown(0, 15));
    }

    private static void holesNumber() {
        due.about("3: UNKNOWN; BAD: v");
        NarrowingKernel k = Worlds.with(2, 0, 15);
        due.is(UNKNOWN, k.hole(-1, 0));
        due.is(UNKNOWN, k.hole(2, 0));
        due.is(BAD, k.hole(1, -1));
        due.is(BAD, k.hole(1, 16));
        due.is(15, k.hole(1, 0));
        due.is(14, k.hole(1, 15));
        due.is(15, k.hole(0, 15));
        due.ranges(k, 0x7FFF, 0x7FFE);
    }

    private static void holeThatIsNotInIt() {
        due.about("3: STATE: also, if it is not in it");
        NarrowingKernel k = Worlds.with(1, 3, 6);
        due.is(STATE, k.hole(0, 2));
        due.is(STATE, k.hole(0, 7));
        due.is(3, k.hole(0, 3));
        due.is(STATE, k.hole(0, 3));
        due.is(2, k.hole(0, 6));
        due.is(STATE, k.hole(0, 6));
        due.ranges(k, 0x30);
    }

    private static void lastHole() {
        due.about("3: STATE: also, if it is the last one");
        for (int v = 0; v < 16; v++) {
            NarrowingKernel k = Worlds.with(1, v, v);
            due.is(STATE, k.hole(0, v));
            due.ranges(k, 1 << v);
        }
        NarrowingKernel k = Worlds.with(1, 0, 15);
        for (int v = 0; v < 15; v++) {
            due.is(15 - v, k.hole(0, v));
        }
        due.is(STATE, k.hole(0, 15));
        due.ranges(k, 0x8000);
    }

    private static void holeAsTold() {
        due.about("3: A NUMBER goes from a RANGE, also as TOLD: how many are left");
        NarrowingKernel k = Worlds.with(2, 0, 3);
        Worlds.clauseOf(k, 0, IS_AT_MOST, 1);
        due.is(2, k.narrow());
        due.is(3, k.hole(0, 0));
        due.is(14, k.range(0, 3));
        due.is(14, k.range(0, 4));
        due.is(15, k.range(1, 4));
        due.is(2, k.narrow());
        due.is(1, k.range(0, 0));
        // of what was TOLD: 1 is the last one now, yet not of those told, and 3 is not in it now, yet told
        due.is(2, k.hole(0, 3));
        due.ranges(k, 6);
        due.is(1, k.narrow());
        due.is(1, k.hole(0, 1));
        due.ranges(k, 4);
        due.is(STATE, k.narrow());
    }

    private static void holeWhileSteps() {
        due.about("3: STATE, while there are STEPS");
        NarrowingKernel k = Worlds.with(1, 0, 3);
        k.step(0, IS_AT_MOST, 3);
        due.is(STATE, k.hole(0, 1));
        due.is(15, k.range(0, 4));
        k.undo(0);
        due.is(3, k.hole(0, 1));
    }

    private static void kinds() {
        due.about("4: BAD: kind (0 .. 5)");
        for (int kind = -1; kind <= 6; kind++) {
            NarrowingKernel k = new NarrowingKernel();
            boolean may = kind >= 0 && kind <= 5;
            due.is(may ? 0 : BAD, k.rule(kind, 0, 0));
            due.is(may ? 1 : 0, k.total(1));
        }
    }

    private static void rulesFirst() {
        due.about("4: BAD: a (SUM: how 0 .. 2; TABLE: t 0 .. 5; LOAD: most); of others a is not looked at");
        for (int kind = SUM; kind <= CLAUSE; kind++) {
            int last = kind == SUM ? 2 : kind == TABLE ? 5 : kind == LOAD ? 100 : -1;
            int[] as = {-1, 0, last, last + 1, -1000, 1000};
            for (int a : as) {
                boolean may = last < 0 || a >= 0 && a <= last;
                NarrowingKernel k = new NarrowingKernel();
                due.is(may ? 0 : BAD, k.rule(kind, a, 0));
                due.is(!may ? UNKNOWN : kind == SUM ? 0 : CAST, k.about(0, 0));
                due.is(!may ? UNKNOWN : kind == LOAD ? a : CAST, k.about(0, 1));
                due.is(!may ? UNKNOWN : kind == TABLE ? a : CAST, k.about(0, 2));
            }
        }
    }

    private static void rulesSecond() {
        due.about("4: BAD: b (SUM: the bound); of others b is not looked at");
        int[] bs = {-1001, -1000, 1000, 1001, -100000, 100000};
        for (int kind = SUM; kind <= CLAUSE; kind++) {
            for (int b : bs) {
                for (int a = 0; a <= 2; a++) {
                    boolean may = kind != SUM || b >= -1000 && b <= 1000;
                    NarrowingKernel k = new NarrowingKernel();
                    due.is(may ? 0 : BAD, k.rule(kind, a, b));
                    due.is(!may ? UNKNOWN : kind == SUM ? b : CAST, k.about(0, 0));
                }
            }
        }
    }

    private static void sixteenRules() {
        due.about("4: A RULE without PARTS: its number; FULL: 16");
        NarrowingKernel k = new NarrowingKernel();
        for (int r = 0; r < 16; r++) {
            due.is(r, k.rule(r % 6, 0, 0));
            due.is(r + 1, k.total(1));
        }
        for (int kind = SUM; kind <= CLAUSE; kind++) {
            due.is(FULL, k.rule(kind, 0, 0));
        }
        due.is(16, k.total(1));
        // also, if some are taken out
        k.stand(15, false);
        due.is(FULL, k.rule(UNLIKE, 0, 0));
    }

    private static void ruleWhileSteps() {
        due.about("4: STATE");
        NarrowingKernel k = Worlds.with(1, 0, 1);
        k.step(0, IS_JUST, 0);
        due.is(STATE, k.rule(UNLIKE, 0, 0));
        due.is(0, k.total(1));
        k.undo(0);
        due.is(0, k.rule(UNLIKE, 0, 0));
    }

    private static void partsRuleAndUnknown() {
        due.about("5: UNKNOWN (r, x)");
        NarrowingKernel k = new NarrowingKernel();
        due.is(UNKNOWN, k.part(0, 0, 1, 1));
        k.rule(SUM, 0, 0);
        due.is(UNKNOWN, k.part(0, 0, 1, 1));
        k.unknown(0, 1);
        due.is(1, k.part(0, 0, 1, 1));
        due.is(UNKNOWN, k.part(1, 0, 1, 1));
        due.is(UNKNOWN, k.part(-1, 0, 1, 1));
        due.is(UNKNOWN, k.part(0, 1, 1, 1));
        due.is(UNKNOWN, k.part(0, -1, 1, 1));
        due.is(0, k.total(4));
    }

    private static void partOfAClause() {
        due.about("5: CAST: it is a CLAUSE");
        for (int kind = SUM; kind <= CLAUSE; kind++) {
            NarrowingKernel k = Worlds.with(1, 0, 1);
            k.rule(kind, 0, 0);
            due.is(kind == CLAUSE ? CAST : 1, k.part(0, 0, 1, 1));
            due.is(kind == CLAUSE ? 1 : 0, k.total(4));
        }
    }

    private static void partsMultiple() {
        due.about("5: BAD: a: SUM the multiple (-9 .. 9, not 0)");
        for (int a = -11; a <= 11; a++) {
            NarrowingKernel k = Worlds.with(1, 0, 15);
            k.rule(SUM, NOT, 0);
            boolean may = a != 0 && a >= -9 && a <= 9;
            due.is(may ? 1 : BAD, k.part(0, 0, a, 99));
            // 0 goes, if it is a PART: without PARTS the SUM is 0, which is the bound
            due.is(may ? 1 : STATE, k.narrow());
        }
    }

    private static void partsLength() {
        due.about("5: BAD: a: LOAD the length (0 .. 15)");
        for (int a = -2; a <= 17; a++) {
            NarrowingKernel k = Worlds.with(2, 0, 1);
            k.rule(LOAD, 0, 0);
            boolean may = a >= 0 && a <= 15;
            due.is(may ? 1 : BAD, k.part(0, 0, a, 1));
            due.is(!may || a == 0 ? 0 : 2, k.takes(0));
        }
    }

    private static void partsNeed() {
        due.about("5: BAD: b: LOAD the need (0 .. 20)");
        for (int b = -2; b <= 22; b++) {
            NarrowingKernel k = Worlds.with(2, 0, 1);
            k.rule(LOAD, 10, 0);
            boolean may = b >= 0 && b <= 20;
            due.is(may ? 1 : BAD, k.part(0, 0, 1, b));
            due.is(may && b > 10 ? 2 : 0, k.takes(0));
        }
    }

    private static void partsOfOthers() {
        due.about("5: of others a, b are not looked at");
        int[] all = {Integer.MIN_VALUE, -10, -1, 0, 10, 21, Integer.MAX_VALUE};
        int[] kinds = {UNLIKE, TABLE, RING};
        for (int kind : kinds) {
            for (int a : all) {
                NarrowingKernel k = Worlds.with(2, 0, 1);
                k.table(0, 0, 2);
                k.rule(kind, 0, 0);
                due.is(1, k.part(0, 0, a, -a));
                due.is(2, k.part(0, 1, -a, a));
                // as with any others: 0 1, 1 0; 0 0; 1 0
                due.is(kind == UNLIKE ? 2 : 1, k.count(20000));
            }
        }
        // and of a SUM the need is not
        for (int b : all) {
            NarrowingKernel k = Worlds.with(1, 0, 1);
            k.rule(SUM, 0, 0);
            due.is(1, k.part(0, 0, 1, b));
            due.is(1, k.count(20000));
        }
    }

    private static void partTwice() {
        due.about("5: STATE: also, if x is a PART of it already");
        for (int kind = SUM; kind <= RING; kind++) {
            NarrowingKernel k = Worlds.with(6, 0, 1);
            k.rule(kind, 0, 0);
            for (int x = 0; x < 6; x++) {
                due.is(x + 1, k.part(0, x, 1, 1));
                for (int y = 0; y <= x; y++) {
                    due.is(STATE, k.part(0, y, 2, 2));
                }
            }
            // of another RULE it may be
            k.rule(kind, 0, 0);
            due.is(1, k.part(1, 5, 1, 1));
        }
    }

    private static void sevenParts() {
        due.about("5: A PART more of a RULE: how many; FULL: 6");
        for (int kind = SUM; kind <= RING; kind++) {
            NarrowingKernel k = Worlds.with(10, 0, 1);
            k.rule(kind, 0, 0);
            for (int x = 0; x < 10; x++) {
                due.is(x < 6 ? x + 1 : FULL, k.part(0, 9 - x, 1, 1));
            }
            k.stand(0, false);
            due.is(FULL, k.part(0, 0, 1, 1));
        }
    }

    private static void partWhileSteps() {
        due.about("5: STATE, while there are STEPS");
        NarrowingKernel k = Worlds.with(1, 0, 3);
        k.rule(SUM, AT_MOST, 2);
        k.step(0, IS_AT_MOST, 3);
        due.is(STATE, k.part(0, 0, 1, 0));
        due.is(0, k.takes(0));
        k.undo(0);
        due.is(1, k.part(0, 0, 1, 0));
        due.is(1, k.takes(0));
    }

    private static void literalsRuleAndUnknown() {
        due.about("6: UNKNOWN (r, x)");
        NarrowingKernel k = new NarrowingKernel();
        due.is(UNKNOWN, k.literal(0, 0, 0, 0));
        k.rule(CLAUSE, 0, 0);
        due.is(UNKNOWN, k.literal(0, 0, 0, 0));
        k.unknown(0, 1);
        due.is(1, k.literal(0, 0, 0, 0));
        due.is(UNKNOWN, k.literal(1, 0, 0, 0));
        due.is(UNKNOWN, k.literal(-1, 0, 0, 0));
        due.is(UNKNOWN, k.literal(0, 1, 0, 0));
        due.is(UNKNOWN, k.literal(0, -1, 0, 0));
        due.is(0, k.total(4));
    }

    private static void literalOfNoClause() {
        due.about("6: CAST: it is none");
        for (int kind = SUM; kind <= CLAUSE; kind++) {
            NarrowingKernel k = Worlds.with(1, 0, 1);
            k.rule(kind, 0, 0);
            due.is(kind == CLAUSE ? 1 : CAST, k.literal(0, 0, 0, 0));
            due.is(kind == CLAUSE ? 0 : 1, k.total(4));
        }
    }

    private static void literalsSortAndNumber() {
        due.about("6: BAD: sort (0 .. 3), v (0 .. 15)");
        for (int sort = -1; sort <= 4; sort++) {
            for (int v = -1; v <= 16; v++) {
                NarrowingKernel k = Worlds.with(1, 0, 15);
                k.rule(CLAUSE, 0, 0);
                boolean may = sort >= 0 && sort <= 3 && v >= 0 && v <= 15;
                due.is(may ? 1 : BAD, k.literal(0, 0, sort, v));
                due.is(may ? k.range(0, 0) - k.takes(0) : 0, k.count(20000));
            }
        }
    }

    private static void sevenLiterals() {
        due.about("6: A LITERAL more of a CLAUSE: how many; FULL: 6");
        NarrowingKernel k = Worlds.with(2, 0, 15);
        k.rule(CLAUSE, 0, 0);
        for (int n = 1; n <= 6; n++) {
            // of one UNKNOWN, as often as one likes
            due.is(n, k.literal(0, 0, IS_JUST, n));
        }
        due.is(FULL, k.literal(0, 0, IS_JUST, 7));
        due.is(FULL, k.literal(0, 1, IS_JUST, 7));
        due.is(10, k.narrow());
        due.ranges(k, 0x7E, 0xFFFF);
    }

    private static void literalWhileSteps() {
        due.about("6: STATE");
        NarrowingKernel k = Worlds.with(1, 0, 3);
        Worlds.clauseOf(k, 0, IS_JUST, 1);
        k.step(0, IS_AT_MOST, 3);
        due.is(STATE, k.literal(0, 0, IS_JUST, 2));
        due.is(3, k.takes(0));
        k.undo(0);
        due.is(2, k.literal(0, 0, IS_JUST, 2));
        due.is(2, k.takes(0));
    }

    private static void stand() {
        due.about("7: A RULE is taken out, or STANDS again: whether it stood: 1, 0");
        NarrowingKernel k = new NarrowingKernel();
        for (int r = 0; r < 16; r++) {
            k.rule(UNLIKE, 0, 0);
        }
        for (int r = 0; r < 16; r += 5) {
            due.is(1, k.stand(r, true));
            due.is(1, k.stand(r, false));
            due.is(0, k.stand(r, false));
            due.is(0, k.stand(r, true));
            due.is(1, k.stand(r, true));
        }
        // each by itself
        k.stand(7, false);
        for (int r = 0; r < 16; r++) {
            due.is(r == 7 ? 0 : 1, k.stand(r, true));
        }
        due.about("7: UNKNOWN; STATE");
        due.is(UNKNOWN, k.stand(16, true));
        due.is(UNKNOWN, k.stand(-1, false));
        due.is(UNKNOWN, new NarrowingKernel().stand(0, true));
        k.unknown(0, 1);
        k.step(0, IS_JUST, 1);
        due.is(STATE, k.stand(7, false));
        due.is(STATE, k.stand(7, true));
        k.undo(0);
        due.is(1, k.stand(7, true));
    }

    private static void tables() {
        due.about("8: BAD: t, lane, n above 48; SIZE");
        for (int n = -2; n <= 50; n++) {
            NarrowingKernel k = new NarrowingKernel();
            due.is(n < 0 ? SIZE : n > 48 ? BAD : n, k.table(5, 2, n));
            due.is(n < 0 ? 1 : 0, k.total(4));
            due.is(n < 0 || n > 48 ? 0 : 1, k.total(5));
        }
        for (int t = -1; t <= 6; t++) {
            for (int lane = -1; lane <= 3; lane++) {
                NarrowingKernel k = new NarrowingKernel();
                boolean may = t >= 0 && t <= 5 && lane >= 0 && lane <= 2;
                due.is(may ? 48 : BAD, k.table(t, lane, 48));
                due.is(may ? 1 : 0, k.total(5));
            }
        }
    }

    private static void tableAnew() {
        due.about("8: TABLE t is a row of n cells: also where there was one");
        NarrowingKernel k = new NarrowingKernel();
        Worlds.tableOf(k, 2, 9, 8, 7);
        due.is(3, k.table(2, 0, 3));
        for (int i = 0; i < 3; i++) {
            due.is(0, k.get(2, i));
        }
        Worlds.tableOf(k, 2, 9, 8, 7);
        due.is(0, k.table(2, 0, 0));
        due.is(PLACE, k.get(2, 0));
        due.is(4, k.table(2, 0, 4));
        for (int i = 0; i < 4; i++) {
            due.is(0, k.get(2, i));
        }
        due.is(1, k.total(5));
    }

    private static void tableWhileSteps() {
        due.about("8: STATE");
        NarrowingKernel k = Worlds.with(1, 0, 1);
        Worlds.tableOf(k, 0, 5);
        k.step(0, IS_JUST, 0);
        due.is(STATE, k.table(0, 0, 1));
        due.is(STATE, k.table(1, 0, 1));
        due.is(5, k.get(0, 0));
        due.is(1, k.total(5));
        k.undo(0);
        due.is(1, k.table(0, 0, 1));
    }

    private static void tear() {
        due.about("9: TABLE t is MISSING: whether it was: 1, 0");
        NarrowingKernel k = new NarrowingKernel();
        for (int t = 0; t < 6; t += 5) {
            due.is(1, k.tear(t));
            k.table(t, 0, 0);
            due.is(0, k.tear(t));
            due.is(1, k.tear(t));
            k.table(t, 0, 48);
            due.is(0, k.tear(t));
            due.is(NULL, k.get(t, 0));
        }
        due.about("9: BAD; STATE");
        due.is(BAD, k.tear(-1));
        due.is(BAD, k.tear(6));
        k.table(5, 0, 1);
        k.unknown(0, 1);
        k.step(0, IS_JUST, 0);
        due.is(STATE, k.tear(5));
        due.is(STATE, k.tear(4));
        due.is(0, k.get(5, 0));
        k.undo(0);
        due.is(0, k.tear(5));
    }

    private static void cellsNumber() {
        due.about("10: Cell i of TABLE t becomes v (0 .. 15): 1. BAD: t, v");
        for (int lane = 0; lane <= 2; lane++) {
            for (int v = -1; v <= 16; v++) {
                NarrowingKernel k = new NarrowingKernel();
                k.table(4, lane, 3);
                boolean may = v >= 0 && v <= 15;
                due.is(may ? 1 : BAD, k.cell(4, 1, v));
                due.is(may ? v : 0, k.get(4, 1));
                due.is(0, k.get(4, 0));
                due.is(0, k.get(4, 2));
            }
        }
        NarrowingKernel k = new NarrowingKernel();
        due.is(BAD, k.cell(-1, 0, 0));
        due.is(BAD, k.cell(6, 0, 0));
        due.is(0, k.total(4));
    }

    private static void cellsPlace() {
        due.about("10: NULL; PLACE");
        for (int n = 0; n <= 48; n += 16) {
            NarrowingKernel k = new NarrowingKernel();
            k.table(0, 0, n);
            for (int i = -1; i <= n + 1; i++) {
                due.is(i >= 0 && i < n ? 1 : PLACE, k.cell(0, i, 3));
                due.is(i >= 0 && i < n ? 3 : PLACE, k.get(0, i));
            }
            due.is(6, k.total(4));
            k.tear(0);
            due.is(NULL, k.cell(0, 0, 3));
            due.is(NULL, k.cell(1, 0, 3));
            due.is(8, k.total(4));
        }
    }

    private static void cellWhileSteps() {
        due.about("10: STATE");
        NarrowingKernel k = Worlds.with(1, 0, 1);
        k.table(0, 0, 1);
        k.step(0, IS_JUST, 0);
        due.is(STATE, k.cell(0, 0, 4));
        due.is(0, k.get(0, 0));
        k.undo(0);
        due.is(1, k.cell(0, 0, 4));
        due.is(4, k.get(0, 0));
    }

    private static void copyPlaces() {
        due.about("11: PLACE: i, j below 0, i + n, j + n beyond the cells (then none comes)");
        for (int i = -1; i <= 4; i++) {
            for (int j = -1; j <= 5; j++) {
                for (int n = 0; n <= 5; n++) {
                    NarrowingKernel k = new NarrowingKernel();
                    Worlds.tableOf(k, 0, 11, 12, 13);
                    Worlds.tableOf(k, 1, 1, 2, 3, 4);
                    boolean may = i >= 0 && j >= 0 && i + n <= 3 && j + n <= 4;
                    due.is(may ? n : PLACE, k.copy(0, i, 1, j, n));
                    due.is(may ? 0 : 1, k.total(4));
                    for (int c = 0; c < 4; c++) {
                        due.is(may && c >= j && c < j + n ? 11 + i + c - j : 1 + c, k.get(1, c));
                    }
                    for (int c = 0; c < 3; c++) {
                        due.is(11 + c, k.get(0, c));
                    }
                }
            }
        }
    }

    private static void copyOfAll() {
        due.about("11: n of them: all 48, and none");
        NarrowingKernel k = new NarrowingKernel();
        k.table(0, 0, 48);
        k.table(5, 2, 48);
        for (int i = 0; i < 48; i++) {
            k.cell(0, i, i % 16);
        }
        due.is(48, k.copy(0, 0, 5, 0, 48));
        for (int i = 0; i < 48; i++) {
            due.is(i % 16, k.get(5, i));
        }
        due.is(PLACE, k.copy(0, 0, 5, 0, 49));
        due.is(PLACE, k.copy(0, 1, 5, 0, 48));
        due.is(PLACE, k.copy(0, 0, 5, 1, 48));
        due.is(0, k.copy(0, 48, 5, 48, 0));
        due.is(PLACE, k.copy(0, 49, 5, 48, 0));
        due.is(PLACE, k.copy(0, 48, 5, 49, 0));
        k.table(1, 0, 0);
        k.table(2, 0, 0);
        due.is(0, k.copy(1, 0, 2, 0, 0));
        due.is(0, k.copy(1, 0, 1, 0, 0));
        due.is(PLACE, k.copy(1, 0, 2, 0, 1));
        due.is(PLACE, k.copy(1, 0, 5, 0, 1));
        due.is(PLACE, k.copy(0, 0, 1, 0, 1));
    }

    private static void copyGoesRound() {
        due.about("11: PLACE, also where i + n, j + n go round the ints");
        int least = Integer.MIN_VALUE, most = Integer.MAX_VALUE;
        int[][] places = {{most, 0, 1}, {0, most, 1}, {most, most, most}, {1, 0, most}, {0, 1, most}, {2, 2, most - 1},
            {most - 1, 0, 2}, {least, 0, 1}, {0, least, 1}, {least, least, most}, {-1, -1, 1}, {most, 0, 0},
            {0, most, 0}, {least, 0, 0}, {0, least, 0}, {-2, 0, 3}, {0, -3, 4}};
        for (int[] place : places) {
            NarrowingKernel k = new NarrowingKernel();
            Worlds.tableOf(k, 0, 1, 2, 3, 4);
            due.is(PLACE, k.copy(0, place[0], 0, place[1], place[2]));
            for (int c = 0; c < 4; c++) {
                due.is(1 + c, k.get(0, c));
            }
            due.is(1, k.total(4));
        }
    }

    private static void copyWithin() {
        due.about("11: as they were ahead: cells of one TABLE that come to one another's places");
        for (int i = 0; i <= 5; i++) {
            for (int j = 0; j <= 5; j++) {
                for (int n = 0; n <= 5 - Math.max(i, j); n++) {
                    NarrowingKernel k = new NarrowingKernel();
                    Worlds.tableOf(k, 2, 10, 11, 12, 13, 14);
                    due.is(n, k.copy(2, i, 2, j, n));
                    for (int c = 0; c < 5; c++) {
                        due.is(c >= j && c < j + n ? 10 + i + c - j : 10 + c, k.get(2, c));
                    }
                }
            }
        }
    }

    private static void copyOfLanes() {
        due.about("11: of the same LANE, or not: each as a number");
        for (int lane = 0; lane <= 2; lane++) {
            for (int other = 0; other <= 2; other++) {
                NarrowingKernel k = new NarrowingKernel();
                k.table(0, lane, 2);
                k.table(1, other, 2);
                k.cell(0, 0, 15);
                k.cell(0, 1, 8);
                due.is(2, k.copy(0, 0, 1, 0, 2));
                due.is(15, k.get(1, 0));
                due.is(8, k.get(1, 1));
            }
        }
    }

    private static void copyRefused() {
        due.about("11: BAD: t, u, n below 0; NULL: t, u");
        NarrowingKernel k = new NarrowingKernel();
        k.table(0, 0, 2);
        k.table(5, 0, 2);
        due.is(BAD, k.copy(-1, 0, 0, 0, 0));
        due.is(BAD, k.copy(6, 0, 0, 0, 0));
        due.is(BAD, k.copy(0, 0, -1, 0, 0));
        due.is(BAD, k.copy(0, 0, 6, 0, 0));
        due.is(BAD, k.copy(0, 0, 5, 0, -1));
        due.is(0, k.copy(0, 0, 5, 0, 0));
        due.is(0, k.total(4));
        due.is(NULL, k.copy(1, 0, 0, 0, 0));
        due.is(NULL, k.copy(0, 0, 1, 0, 0));
        due.is(NULL, k.copy(1, 0, 2, 0, 0));
        due.is(3, k.total(4));
        due.about("11: STATE");
        k.unknown(0, 1);
        k.cell(0, 0, 7);
        k.step(0, IS_JUST, 0);
        due.is(STATE, k.copy(0, 0, 5, 0, 1));
        due.is(0, k.get(5, 0));
        k.undo(0);
        due.is(1, k.copy(0, 0, 5, 0, 1));
        due.is(7, k.get(5, 0));
    }

    private static void get() {
        due.about("12: What cell i of TABLE t has. BAD; NULL; PLACE");
        NarrowingKernel k = new NarrowingKernel();
        Worlds.tableOf(k, 5, 3, 15);
        due.is(BAD, k.get(-1, 0));
        due.is(BAD, k.get(6, 0));
        due.is(NULL, k.get(4, 0));
        due.is(PLACE, k.get(5, -1));
        due.is(3, k.get(5, 0));
        due.is(15, k.get(5, 1));
        due.is(PLACE, k.get(5, 2));
        due.is(3, k.total(4));
        k.table(5, 0, 0);
        due.is(PLACE, k.get(5, 0));
    }

    private static void about() {
        due.about("13: The bound of a SUM (what = 0), most of a LOAD (1), the TABLE of a TABLE (2); CAST");
        for (int kind = SUM; kind <= CLAUSE; kind++) {
            NarrowingKernel k = new NarrowingKernel();
            k.rule(kind, 2, 7);
            due.is(kind == SUM ? 7 : CAST, k.about(0, 0));
            due.is(kind == LOAD ? 2 : CAST, k.about(0, 1));
            due.is(kind == TABLE ? 2 : CAST, k.about(0, 2));
            due.is(kind == SUM || kind == LOAD || kind == TABLE ? 2 : 3, k.total(4));
        }
        due.about("13: UNKNOWN; BAD: what");
        NarrowingKernel k = new NarrowingKernel();
        due.is(UNKNOWN, k.about(0, 0));
        k.rule(SUM, 0, -1000);
        due.is(-1000, k.about(0, 0));
        due.is(UNKNOWN, k.about(1, 0));
        due.is(UNKNOWN, k.about(-1, 0));
        due.is(BAD, k.about(0, -1));
        due.is(BAD, k.about(0, 3));
        due.is(0, k.total(4));
        due.about("13: (a bound may be as that)");
        for (int bound = SIZE; bound <= UNKNOWN; bound++) {
            k = new NarrowingKernel();
            k.rule(SUM, 0, bound);
            due.is(bound, k.about(0, 0));
            due.is(0, k.total(4));
        }
        // what was taken out is still there
        k.stand(0, false);
        due.is(UNKNOWN, k.about(0, 0));
        due.is(0, k.total(4));
        due.is(CAST, k.about(0, 1));
        due.is(1, k.total(4));
    }

    private static void aboutWhatWasNotLookedAt() {
        due.about("13: most 0 and 100, TABLES 0 and 5");
        int[][] ends = {{LOAD, 0}, {LOAD, 100}, {TABLE, 0}, {TABLE, 5}};
        for (int[] end : ends) {
            NarrowingKernel k = new NarrowingKernel();
            k.rule(end[0], end[1], IS_AT_LEAST);
            due.is(end[1], k.about(0, end[0] == LOAD ? 1 : 2));
            due.is(CAST, k.about(0, end[0] == LOAD ? 2 : 1));
        }
    }

    public static void main(String[] args) {
        newObject();
        unknownsRange();
        tenUnknowns();
        unknownWhileSteps();
        holesNumber();
        holeThatIsNotInIt();
        lastHole();
        holeAsTold();
        holeWhileSteps();
        kinds();
        rulesFirst();
        rulesSecond();
        sixteenRules();
        ruleWhileSteps();
        partsRuleAndUnknown();
        partOfAClause();
        partsMultiple();
        partsLength();
        partsNeed();
        partsOfOthers();
        partTwice();
        sevenParts();
        partWhileSteps();
        literalsRuleAndUnknown();
        literalOfNoClause();
        literalsSortAndNumber();
        sevenLiterals();
        literalWhileSteps();
        stand();
        tables();
        tableAnew();
        tableWhileSteps();
        tear();
        cellsNumber();
        cellsPlace();
        cellWhileSteps();
        copyPlaces();
        copyOfAll();
        copyGoesRound();
        copyWithin();
        copyOfLanes();
        copyRefused();
        get();
        about();
        aboutWhatWasNotLookedAt();
        due.end();
    }
}
