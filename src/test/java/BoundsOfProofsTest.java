/** Promises 28 to 33: edges of LINES, of what is right about them, and of what there is in all. */
public final class BoundsOfProofsTest {
    private static final int UNKNOWN = -1, BAD = -2, FULL = -4, FAR = -5, NONE = -9;
    private static final int SUM = 0, UNLIKE = 1, TABLE = 2, LOAD = 3, RING = 4, CLAUSE = 5;
    private static final int EXACTLY = 1, NOT = 2;
    private static final int IS_AT_MOST = 0, IS_AT_LEAST = 1, IS_NOT = 2, IS_JUST = 3;
    private static final Due due = new Due("BoundsOfProofsTest");

    private static void linesFrom() {
        due.about("28: from RULE r (NONE: from LINES). UNKNOWN");
        NarrowingKernel k = new NarrowingKernel();
        for (int r = -12; r <= 16; r++) {
            due.is(r == NONE ? 0 : UNKNOWN, k.line(r));
        }
        for (int r = 0; r < 16; r++) {
            k.rule(UNLIKE, 0, 0);
            due.is(r + 1, k.line(r));
            due.is(UNKNOWN, k.line(r + 1));
        }
        due.is(17, k.total(3));
        // from one that was taken out, too
        k.stand(15, false);
        due.is(17, k.line(15));
    }

    private static void fortyLines() {
        due.about("28: A LINE without LITERALS: its number; FULL");
        NarrowingKernel k = new NarrowingKernel();
        k.rule(UNLIKE, 0, 0);
        for (int l = 0; l < 40; l++) {
            due.is(l, k.line(l % 2 == 0 ? NONE : 0));
            due.is(l + 1, k.total(3));
        }
        due.is(FULL, k.line(NONE));
        due.is(FULL, k.line(0));
        due.is(40, k.total(3));
    }

    private static void linesWhileSteps() {
        due.about("28: no STATE: LINES come while there are STEPS, and let RANGES be");
        NarrowingKernel k = Worlds.with(1, 0, 3);
        Worlds.clauseOf(k, 0, IS_AT_MOST, 2);
        k.step(0, IS_NOT, 0);
        k.narrow();
        due.is(0, k.line(0));
        due.is(1, k.says(0, 0, IS_AT_MOST, 2));
        due.is(NONE, k.check());
        due.is(1, k.forge(0, 0, IS_AT_MOST, 1));
        due.is(0, k.check());
        due.is(0, k.refutes());
        due.ranges(k, 6);
        due.is(1, k.total(2));
        // and without STEPS narrowed RANGES stay as well
        k.undo(0);
        k.narrow();
        due.is(1, k.line(NONE));
        due.is(1, k.says(1, 0, IS_AT_MOST, 2));
        due.is(1, k.forge(1, 0, IS_AT_MOST, 3));
        due.ranges(k, 7);
    }

    private static void saysOfWhom() {
        due.about("29: UNKNOWN (l, x)");
        NarrowingKernel k = new NarrowingKernel();
        due.is(UNKNOWN, k.says(0, 0, 0, 0));
        k.line(NONE);
        due.is(UNKNOWN, k.says(0, 0, 0, 0));
        for (int x = 0; x < 10; x++) {
            k.unknown(0, 15);
        }
        due.is(1, k.says(0, 9, 0, 0));
        due.is(UNKNOWN, k.says(0, 10, 0, 0));
        due.is(UNKNOWN, k.says(0, -1, 0, 0));
        due.is(UNKNOWN, k.says(1, 0, 0, 0));
        due.is(UNKNOWN, k.says(-1, 0, 0, 0));
        for (int l = 1; l < 40; l++) {
            k.line(NONE);
        }
        due.is(1, k.says(39, 9, 0, 0));
        due.is(UNKNOWN, k.says(40, 0, 0, 0));
    }

    private static void saysWhat() {
        due.about("29: BAD");
        for (int sort = -1; sort <= 4; sort++) {
            for (int v = -1; v <= 16; v++) {
                NarrowingKernel k = Worlds.with(1, 0, 15);
                k.line(NONE);
                boolean may = sort >= 0 && sort <= 3 && v >= 0 && v <= 15;
                due.is(may ? 1 : BAD, k.says(0, 0, sort, v));
                due.is(may ? 1 : UNKNOWN, k.forge(0, 0, IS_AT_MOST, 15));
                due.is(may ? NONE : 0, k.check());
            }
        }
    }

    private static void sevenLiterals() {
        due.about("29: A LITERAL more of a LINE: how many; FULL: 6");
        NarrowingKernel k = Worlds.with(2, 0, 5);
        k.line(NONE);
        k.line(NONE);
        for (int n = 1; n <= 6; n++) {
            due.is(0, k.check());
            due.is(n, k.says(0, 0, IS_JUST, n - 1));
        }
        // all six count: 0 is one of 0 .. 5
        due.is(1, k.check());
        due.is(FULL, k.says(0, 0, IS_AT_MOST, 15));
        due.is(FULL, k.says(0, 1, IS_AT_MOST, 15));
        due.is(1, k.says(1, 1, IS_AT_MOST, 15));
        due.is(NONE, k.check());
    }

    private static void forgeOfWhat() {
        due.about("30: UNKNOWN: also k");
        NarrowingKernel k = Worlds.with(1, 0, 3);
        due.is(UNKNOWN, k.forge(0, 0, 0, 0));
        k.line(NONE);
        due.is(UNKNOWN, k.forge(0, 0, 0, 0));
        for (int n = 1; n <= 6; n++) {
            k.says(0, 0, IS_JUST, 15);
            due.is(1, k.forge(0, n - 1, IS_JUST, 15));
            due.is(UNKNOWN, k.forge(0, n, IS_JUST, 15));
            due.is(UNKNOWN, k.forge(0, -1, IS_JUST, 15));
        }
        due.is(UNKNOWN, k.forge(1, 0, 0, 0));
        due.is(UNKNOWN, k.forge(-1, 0, 0, 0));
        for (int l = 1; l < 40; l++) {
            k.line(NONE);
            due.is(UNKNOWN, k.forge(l, 0, 0, 0));
        }
        due.is(UNKNOWN, k.forge(40, 0, 0, 0));
        k.says(39, 0, 0, 0);
        due.is(1, k.forge(39, 0, 0, 0));
        due.about("30: BAD");
        for (int sort = -1; sort <= 4; sort++) {
            for (int v = -1; v <= 16; v++) {
                boolean may = sort >= 0 && sort <= 3 && v >= 0 && v <= 15;
                due.is(may ? 1 : BAD, k.forge(0, 5, sort, v));
            }
        }
    }

    private static void forgeOfOne() {
        due.about("30: LITERAL k of a LINE becomes another one of sort, v: of the same UNKNOWN, the others stay");
        for (int forged = 0; forged < 6; forged++) {
            NarrowingKernel k = Worlds.with(6, 0, 1);
            k.line(NONE);
            for (int x = 0; x < 6; x++) {
                k.says(0, x, IS_JUST, 2);
            }
            due.is(0, k.check());
            due.is(1, k.forge(0, forged, IS_AT_MOST, 1));
            due.is(NONE, k.check());
            due.is(1, k.forge(0, forged, IS_AT_MOST, 0));
            due.is(0, k.check());
            // so just if the UNKNOWN of this LITERAL has but 0
            for (int x = 0; x < 6; x++) {
                if (x != forged) {
                    k.hole(x, 1);
                }
            }
            due.is(0, k.check());
            k.hole(forged, 1);
            due.is(NONE, k.check());
        }
    }

    private static void checkOfNoLines() {
        due.about("31: The first LINE that is not RIGHT, or NONE: no LINES");
        due.is(NONE, new NarrowingKernel().check());
        due.is(0, new NarrowingKernel().refutes());
        due.is(NONE, Worlds.far().check());
        due.is(NONE, Worlds.dead().check());
    }

    private static void checkTellsTheFirst() {
        due.about("31: The first LINE that is not RIGHT");
        NarrowingKernel k = Worlds.with(1, 0, 3);
        for (int l = 0; l < 40; l++) {
            Worlds.lineOf(k, NONE, 0, IS_AT_MOST, 3);
        }
        due.is(NONE, k.check());
        for (int l = 39; l >= 0; l -= 13) {
            k.forge(l, 0, IS_AT_MOST, 2);
            due.is(l, k.check());
            due.is(0, k.refutes());
        }
        for (int l = 0; l < 40; l += 13) {
            due.is(l, k.check());
            k.forge(l, 0, IS_AT_MOST, 3);
        }
        due.is(NONE, k.check());
    }

    private static void ruleMustStand() {
        due.about("31: A LINE from a RULE is RIGHT, if the RULE STANDS");
        for (int r = 0; r < 16; r += 15) {
            NarrowingKernel k = Worlds.with(1, 0, 3);
            for (int i = 0; i < 16; i++) {
                Worlds.clauseOf(k, 0, IS_AT_MOST, 2);
            }
            Worlds.lineOf(k, r, 0, IS_AT_MOST, 2);
            Worlds.lineOf(k, r, 0, IS_AT_MOST, 3);
            due.is(NONE, k.check());
            k.stand(r, false);
            due.is(0, k.check());
            k.stand(r, true);
            due.is(NONE, k.check());
            // another one that is taken out does no harm
            k.stand(15 - r, false);
            due.is(NONE, k.check());
        }
    }

    private static void oneRuleAlone() {
        due.about("31: of a LINE from a RULE: by this RULE alone");
        NarrowingKernel k = Worlds.with(1, 0, 3);
        Worlds.clauseOf(k, 0, IS_AT_MOST, 2);
        Worlds.clauseOf(k, 0, IS_AT_LEAST, 2);
        Worlds.lineOf(k, 0, 0, IS_AT_MOST, 2);
        Worlds.lineOf(k, 1, 0, IS_AT_LEAST, 2);
        Worlds.lineOf(k, 0, 0, IS_JUST, 2);
        due.is(2, k.check());
        // by LINES ahead, however, what both say comes to one
        NarrowingKernel other = Worlds.with(1, 0, 3);
        Worlds.clauseOf(other, 0, IS_AT_MOST, 2);
        Worlds.clauseOf(other, 0, IS_AT_LEAST, 2);
        Worlds.lineOf(other, 0, 0, IS_AT_MOST, 2);
        Worlds.lineOf(other, 1, 0, IS_AT_LEAST, 2);
        Worlds.lineOf(other, NONE, 0, IS_JUST, 2);
        due.is(NONE, other.check());
    }

    private static void unknownsOfTheLineAlone() {
        due.about("31: of the NUMBERS TOLD of its PARTS' UNKNOWNS and of those of the LINE");
        // 4 is not of the RULE: what the LINE says of it is so with some NUMBERS only
        NarrowingKernel k = Worlds.with(5, 0, 3);
        Worlds.ruleOf(k, UNLIKE, 0, 0, 0, 0, 0);
        Worlds.lineOf(k, 0, 4, IS_AT_MOST, 2);
        due.is(0, k.check());
        k.says(0, 4, IS_AT_LEAST, 3);
        due.is(NONE, k.check());
        k.forge(0, 1, IS_AT_LEAST, 4);
        due.is(0, k.check());
        k.hole(4, 3);
        due.is(NONE, k.check());
        // the LINE leaves the UNKNOWNS of the RULE alone: it is wrong, if anything at all fits
        NarrowingKernel none = Worlds.with(5, 0, 0);
        Worlds.ruleOf(none, UNLIKE, 0, 0, 0, 0, 0);
        Worlds.lineOf(none, 0, 4, IS_JUST, 1);
        due.is(NONE, none.check());
    }

    private static void unknownsOfNeither() {
        due.about("31: UNKNOWNS that are neither of the RULE nor of the LINE have no say, however many ways they have");
        // x 0 + 2 x 8 + 2 x 9 of 0 .. 1 is 3 just if 0 is 1, which narrowing does not see
        NarrowingKernel k = new NarrowingKernel();
        for (int x = 0; x < 10; x++) {
            k.unknown(0, x == 0 || x > 7 ? 1 : 15);
        }
        k.rule(SUM, EXACTLY, 3);
        k.part(0, 0, 1, 0);
        k.part(0, 8, 2, 0);
        k.part(0, 9, 2, 0);
        due.is(0, k.takes(0));
        k.line(0);
        due.is(0, k.check());
        k.says(0, 0, IS_JUST, 0);
        due.is(0, k.check());
        k.forge(0, 0, IS_JUST, 1);
        due.is(NONE, k.check());
        // one that the LINE alone is of
        Worlds.lineOf(k, 0, 7, IS_AT_MOST, 14);
        due.is(1, k.check());
        k.says(1, 7, IS_JUST, 15);
        due.is(NONE, k.check());
    }

    private static void linesFromRulesWithoutParts() {
        due.about("31: of a RULE without PARTS: one way to choose none of them");
        NarrowingKernel k = new NarrowingKernel();
        k.rule(UNLIKE, 0, 0);
        k.rule(CLAUSE, 0, 0);
        k.line(1);
        due.is(NONE, k.check());
        due.is(1, k.refutes());
        k.line(0);
        due.is(1, k.check());
        due.is(0, k.refutes());
        k.unknown(0, 1);
        k.says(1, 0, IS_JUST, 0);
        due.is(1, k.check());
        k.forge(1, 0, IS_AT_MOST, 1);
        due.is(NONE, k.check());
        due.is(1, k.refutes());
    }

    private static void linesOfEveryKind() {
        due.about("31: none that FIT the RULE: all of them, but one");
        for (int kind = SUM; kind <= CLAUSE; kind++) {
            NarrowingKernel k = Worlds.with(2, 0, 1);
            Worlds.tableOf(k, 0, 0, 1, 1, 0);
            int a = kind == SUM ? EXACTLY : kind == LOAD ? 1 : 0;
            k.rule(kind, a, 1);
            for (int x = 0; x < 2; x++) {
                if (kind == CLAUSE) {
                    k.literal(0, x, IS_JUST, 1);
                } else {
                    k.part(0, x, 1, 1);
                }
            }
            // 0 1 and 1 0 fit, but for the RING 1 0 alone; the CLAUSE lets 1 1 fit, too
            Worlds.lineOf(k, 0, 0, IS_JUST, 1, 1, IS_JUST, 1);
            due.is(NONE, k.check());
            Worlds.lineOf(k, 0, 0, IS_JUST, 0, 1, IS_JUST, 0);
            due.is(kind == CLAUSE ? 1 : NONE, k.check());
            k.forge(1, 0, IS_AT_MOST, 1);
            Worlds.lineOf(k, 0, 0, IS_JUST, 1);
            due.is(kind == RING ? NONE : 2, k.check());
            k.forge(2, 0, IS_AT_MOST, 1);
            Worlds.lineOf(k, 0, 1, IS_JUST, 1);
            due.is(3, k.check());
        }
    }

    private static void byWhatFitsNotByNarrowing() {
        due.about("31: of a LINE from a RULE: by what FITS it, also where narrowing takes nothing");
        // 2 x + 2 y + 2 z of 0 .. 1 is never 3, and is 4 but with one of them 0
        NarrowingKernel k = Worlds.with(3, 0, 1);
        Worlds.ruleOf(k, SUM, EXACTLY, 3, 0, 2, 2, 2);
        Worlds.ruleOf(k, SUM, EXACTLY, 4, 0, 2, 2, 2);
        due.is(0, k.takes(0));
        k.line(0);
        due.is(NONE, k.check());
        due.is(1, k.refutes());
        k.line(1);
        due.is(1, k.check());
        k.says(1, 0, IS_JUST, 0);
        due.is(1, k.check());
        k.says(1, 1, IS_JUST, 0);
        due.is(1, k.check());
        k.says(1, 2, IS_JUST, 0);
        due.is(NONE, k.check());
    }

    private static void ofTheNumbersTold() {
        due.about("31: of the NUMBERS TOLD, the RANGES TOLD: STEPS and narrowing have no say");
        for (int r = 0; r < 2; r++) {
            NarrowingKernel k = Worlds.with(2, 0, 3);
            Worlds.ruleOf(k, UNLIKE, 0, 0, 0, 0, 0);
            Worlds.clauseOf(k, 0, IS_AT_MOST, 2);
            Worlds.lineOf(k, r == 0 ? 0 : NONE, 0, IS_AT_MOST, 2);
            due.is(0, k.check());
            due.is(1, k.narrow());
            due.is(7, k.range(0, 3));
            due.is(0, k.check());
            k.step(0, IS_JUST, 1);
            k.narrow();
            due.is(0, k.check());
            k.undo(0);
            k.hole(0, 3);
            due.is(NONE, k.check());
        }
    }

    private static void checkFar() {
        due.about("31: FAR: a LINE ahead of it, or it, is");
        NarrowingKernel k = Worlds.far();
        k.rule(UNLIKE, 0, 0);
        for (int x = 0; x < 5; x++) {
            k.part(1, x, 0, 0);
        }
        // right, far, wrong
        Worlds.lineOf(k, 0, 0, IS_AT_MOST, 3);
        k.stand(0, true);
        Worlds.lineOf(k, 1, 0, IS_AT_MOST, 3);
        Worlds.lineOf(k, NONE, 1, IS_AT_MOST, 2);
        due.is(FAR, k.check());
        due.is(FAR, k.refutes());
        // wrong, far, wrong
        k.forge(0, 0, IS_NOT, 0);
        due.is(0, k.check());
        due.is(0, k.refutes());
        // right, not far any more, wrong
        k.forge(0, 0, IS_JUST, 0);
        k.hole(4, 12);
        due.is(2, k.check());
        due.is(0, k.refutes());
    }

    private static void checkFarByTheLine() {
        due.about("31: FAR: of its PARTS' UNKNOWNS and of those of the LINE, each once");
        NarrowingKernel k = Worlds.far();
        k.rule(UNLIKE, 0, 0);
        for (int x = 0; x < 4; x++) {
            k.part(1, x, 0, 0);
        }
        Worlds.lineOf(k, 1, 0, IS_NOT, 0, 0, IS_NOT, 0, 1, IS_NOT, 1, 2, IS_NOT, 2);
        due.is(0, k.check());
        k.says(0, 4, IS_AT_MOST, 12);
        due.is(FAR, k.check());
        // of the NUMBERS TOLD, not of those of them that make its LITERALS false
        k.forge(0, 4, IS_NOT, 0);
        due.is(FAR, k.check());
        k.hole(4, 12);
        due.is(0, k.check());
        // STEPS and narrowing make no fewer ways
        NarrowingKernel other = Worlds.far();
        other.stand(0, true);
        other.narrow();
        other.step(1, IS_JUST, 0);
        due.is(1, other.range(4, 0));
        Worlds.lineOf(other, 0, 1, IS_AT_MOST, 4);
        due.is(FAR, other.check());
    }

    private static void checkOfARuleTakenOutIsNotFar() {
        due.about("31: a LINE from a RULE that was taken out is not RIGHT, however many ways there are");
        NarrowingKernel k = Worlds.far();
        k.rule(UNLIKE, 0, 0);
        for (int x = 0; x < 5; x++) {
            k.part(1, x, 0, 0);
        }
        k.line(1);
        due.is(FAR, k.check());
        k.stand(1, false);
        due.is(0, k.check());
        due.is(0, k.refutes());
    }

    private static void linesAheadAlone() {
        due.about("31: with the CLAUSES of the LINES ahead of it alone: not its own, not those behind");
        NarrowingKernel k = Worlds.with(1, 0, 3);
        Worlds.clauseOf(k, 0, IS_AT_MOST, 2);
        Worlds.lineOf(k, NONE, 0, IS_AT_MOST, 2);
        Worlds.lineOf(k, 0, 0, IS_AT_MOST, 2);
        due.is(0, k.check());
        k.forge(0, 0, IS_AT_MOST, 3);
        due.is(NONE, k.check());
        Worlds.lineOf(k, NONE, 0, IS_AT_MOST, 2);
        due.is(NONE, k.check());
        // all 39 of them are ahead of the last one
        k = Worlds.with(3, 0, 15);
        Worlds.clauseOf(k, 0, IS_AT_MOST, 3);
        for (int l = 0; l < 39; l++) {
            Worlds.lineOf(k, 0, 0, IS_AT_MOST, l == 0 || l == 20 || l == 38 ? 3 : 5);
        }
        k.forge(0, 0, IS_AT_MOST, 4);
        k.forge(20, 0, IS_AT_MOST, 4);
        Worlds.lineOf(k, NONE, 0, IS_AT_MOST, 3);
        due.is(NONE, k.check());
        k.forge(38, 0, IS_AT_MOST, 4);
        due.is(39, k.check());
        k.forge(0, 0, IS_AT_MOST, 3);
        due.is(NONE, k.check());
    }

    private static void linesBehindAnEmptyOne() {
        due.about("31: DEAD: a LINE without LITERALS is ahead, which none FITS");
        NarrowingKernel k = Worlds.with(1, 0, 3);
        k.rule(CLAUSE, 0, 0);
        k.line(0);
        Worlds.lineOf(k, NONE, 0, IS_JUST, 15);
        k.line(NONE);
        due.is(NONE, k.check());
        due.is(1, k.refutes());
        // itself is not ahead of itself
        NarrowingKernel other = Worlds.with(1, 0, 3);
        other.line(NONE);
        due.is(0, other.check());
        due.is(0, other.refutes());
    }

    private static void linesByNarrowingAlone() {
        due.about("31: come to be DEAD by NARROWING: what narrowing does not see is not RIGHT");
        NarrowingKernel k = Worlds.with(2, 0, 1);
        Worlds.ruleOf(k, UNLIKE, 0, 0, 0, 0, 0);
        Worlds.ruleOf(k, SUM, NOT, 1, 0, 1, 1);
        Worlds.lineOf(k, 0, 0, IS_JUST, 0, 1, IS_JUST, 0);
        Worlds.lineOf(k, 0, 0, IS_JUST, 1, 1, IS_JUST, 1);
        Worlds.lineOf(k, 1, 0, IS_JUST, 0, 1, IS_JUST, 1);
        Worlds.lineOf(k, 1, 0, IS_JUST, 1, 1, IS_JUST, 0);
        k.line(NONE);
        due.is(4, k.check());
        k.says(4, 1, IS_JUST, 1);
        k.line(NONE);
        due.is(NONE, k.check());
        due.is(1, k.refutes());
    }

    private static void refutesWhat() {
        due.about("32: Whether all LINES are RIGHT, and one has no LITERALS: 1, 0");
        NarrowingKernel k = Worlds.with(1, 0, 3);
        due.is(0, k.refutes());
        k.rule(TABLE, 0, 0);
        k.rule(UNLIKE, 0, 0);
        Worlds.lineOf(k, NONE, 0, IS_AT_MOST, 3);
        due.is(0, k.refutes());
        k.line(0);
        due.is(1, k.refutes());
        Worlds.lineOf(k, 1, 0, IS_AT_MOST, 3);
        due.is(1, k.refutes());
        // a wrong one behind it, and ahead of it
        k.forge(2, 0, IS_AT_MOST, 2);
        due.is(0, k.refutes());
        k.forge(2, 0, IS_AT_MOST, 3);
        k.forge(0, 0, IS_AT_MOST, 2);
        due.is(0, k.refutes());
        k.forge(0, 0, IS_AT_MOST, 3);
        due.is(1, k.refutes());
        // it comes to have one
        k.says(1, 0, IS_AT_MOST, 0);
        due.is(NONE, k.check());
        due.is(0, k.refutes());
        k.line(0);
        due.is(1, k.refutes());
        due.about("32: of 40 LINES the last one, or the first, has none");
        for (int empty = 0; empty < 40; empty += 39) {
            k = Worlds.with(1, 0, 3);
            k.rule(CLAUSE, 0, 0);
            for (int l = 0; l < 40; l++) {
                k.line(0);
                if (l != empty) {
                    k.says(l, 0, IS_JUST, 9);
                }
            }
            due.is(1, k.refutes());
            k.says(empty, 0, IS_JUST, 9);
            due.is(0, k.refutes());
            due.is(NONE, k.check());
        }
    }

    private static void refutesFar() {
        due.about("32: FAR");
        NarrowingKernel k = Worlds.far();
        k.rule(CLAUSE, 0, 0);
        k.rule(UNLIKE, 0, 0);
        for (int x = 0; x < 5; x++) {
            k.part(2, x, 0, 0);
        }
        k.line(1);
        due.is(1, k.refutes());
        Worlds.lineOf(k, 2, 0, IS_AT_MOST, 3);
        due.is(FAR, k.refutes());
        k.hole(4, 12);
        due.is(1, k.refutes());
    }

    private static void totals() {
        due.about("33: 0 UNKNOWNS, 1 RULES, 2 STEPS, 3 LINES, 4 FINDINGS, 5 TABLES that are not MISSING");
        NarrowingKernel k = new NarrowingKernel();
        int[] most = {10, 16, 12, 40, 13, 6};
        for (int n = 1; n <= 40; n++) {
            k.unknown(0, 15);
            k.rule(UNLIKE, 0, 0);
            if (n <= 6) {
                k.table(n - 1, 0, n * 8);
            }
            k.line(NONE);
            if (n <= 13) {
                k.get(0, -1);
            }
            due.is(Math.min(n, 10), k.total(0));
            due.is(Math.min(n, 16), k.total(1));
            due.is(Math.min(n, 40), k.total(3));
            due.is(Math.min(n, 13), k.total(4));
            due.is(Math.min(n, 6), k.total(5));
        }
        for (int n = 1; n <= 13; n++) {
            k.step(9, IS_NOT, n);
            due.is(Math.min(n, 12), k.total(2));
        }
        for (int what = 0; what < 6; what++) {
            due.is(most[what], k.total(what));
        }
        // what goes again
        k.undo(3);
        due.is(3, k.total(2));
        k.undo(0);
        k.tear(3);
        k.tear(3);
        due.is(0, k.total(2));
        due.is(5, k.total(5));
        k.stand(3, false);
        due.is(16, k.total(1));
        due.about("33: BAD");
        due.is(BAD, k.total(-1));
        due.is(BAD, k.total(6));
    }

    public static void main(String[] args) {
        linesFrom();
        fortyLines();
        linesWhileSteps();
        saysOfWhom();
        saysWhat();
        sevenLiterals();
        forgeOfWhat();
        forgeOfOne();
        checkOfNoLines();
        checkTellsTheFirst();
        ruleMustStand();
        oneRuleAlone();
        unknownsOfTheLineAlone();
        unknownsOfNeither();
        linesFromRulesWithoutParts();
        linesOfEveryKind();
        byWhatFitsNotByNarrowing();
        ofTheNumbersTold();
        checkFar();
        checkFarByTheLine();
        checkOfARuleTakenOutIsNotFar();
        linesAheadAlone();
        linesBehindAnEmptyOne();
        linesByNarrowingAlone();
        refutesWhat();
        refutesFar();
        totals();
        due.end();
    }
}
