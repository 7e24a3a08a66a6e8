/** Promises 21 to 27: edges of what seeks ANSWERS, counts them, and finds who is to blame that there are none. */
public final class BoundsOfAnswersTest {
    private static final int UNKNOWN = -1, BAD = -2, STATE = -3, FAR = -5, NONE = -9;
    private static final int SUM = 0, UNLIKE = 1, CLAUSE = 5;
    private static final int AT_MOST = 0, EXACTLY = 1, NOT = 2;
    private static final int IS_AT_MOST = 0, IS_AT_LEAST = 1, IS_NOT = 2, IS_JUST = 3;
    private static final Due due = new Due("BoundsOfAnswersTest");

    /** 2 x + 2 y + 2 z of 0 .. 1 is never 3: there are no ANSWERS, yet narrowing takes nothing. */
    private static NarrowingKernel without() {
        NarrowingKernel k = Worlds.with(3, 0, 1);
        Worlds.ruleOf(k, SUM, EXACTLY, 3, 0, 2, 2, 2);
        due.is(0, k.narrow());
        return k;
    }

    private static void leastAnswer() {
        due.about("21: The least ANSWER (by UNKNOWN 0, then 1, so on)");
        NarrowingKernel k = Worlds.with(10, 0, 15);
        for (int x = 0; x < 10; x++) {
            Worlds.clauseOf(k, x, IS_AT_LEAST, 15 - x);
        }
        k.stand(9, false);
        k.step(8, IS_AT_LEAST, 14);
        for (int x = 4; x < 8; x++) {
            k.step(x, IS_JUST, 15);
        }
        due.is(1, k.solve());
        due.answers(k, 15, 14, 13, 12, 15, 15, 15, 15, 14, 0);
        // UNKNOWN 0 weighs most
        k = Worlds.with(2, 0, 3);
        Worlds.ruleOf(k, SUM, EXACTLY, 3, 0, 1, 1);
        due.is(1, k.solve());
        due.answers(k, 0, 3);
        k = new NarrowingKernel();
        k.unknown(15, 15);
        due.is(1, k.solve());
        due.answers(k, 15);
    }

    private static void solveWithoutUnknowns() {
        due.about("21: no UNKNOWNS: one ANSWER, that gives no NUMBER");
        NarrowingKernel k = new NarrowingKernel();
        due.is(1, k.solve());
        due.is(UNKNOWN, k.answer(0));
        due.is(0, k.next());
        k.unknown(3, 3);
        due.is(STATE, k.answer(0));
        due.is(STATE, k.next());
        due.is(1, k.solve());
        due.answers(k, 3);
    }

    private static void solveWithoutAnswers() {
        due.about("21: 0: there is none (and no ANSWER is told)");
        NarrowingKernel k = without();
        due.is(0, k.solve());
        due.answers(k, STATE, STATE, STATE);
        due.is(STATE, k.next());
        k.stand(0, false);
        due.is(1, k.solve());
        due.answers(k, 0, 0, 0);
        k.stand(0, true);
        due.is(0, k.solve());
        due.answers(k, STATE, STATE, STATE);
        // the same, if narrowing comes to be DEAD
        k.stand(0, false);
        due.is(1, k.solve());
        k.rule(CLAUSE, 0, 0);
        due.answers(k, 0, 0, 0);
        due.is(0, k.solve());
        due.answers(k, STATE, STATE, STATE);
    }

    private static void solveFar() {
        due.about("21: FAR");
        NarrowingKernel k = Worlds.far();
        due.is(FAR, k.solve());
        due.answers(k, 0, 4, 0, 0, 0);
        due.is(FAR, k.solve());
        k.hole(1, 4);
        due.is(1, k.solve());
        due.answers(k, 0, 0, 0, 0, 0);
        k = Worlds.with(5, 0, 7);
        due.is(FAR, k.solve());
        due.answers(k, STATE, STATE, STATE, STATE, STATE);
    }

    private static void rangesStay() {
        due.about("21 to 27: out of RANGES as they are, which stay");
        for (int call = 0; call < 6; call++) {
            NarrowingKernel k = Worlds.with(2, 0, 3);
            Worlds.clauseOf(k, 0, IS_AT_MOST, 1);
            k.step(1, IS_NOT, 0);
            int answer = call == 0 ? k.solve() : call == 1 ? k.count(99) : call == 2 ? k.best(1, true)
                    : call == 3 ? k.has(0, IS_AT_MOST, 1) : call == 4 ? k.core() : k.solve() + k.next() - 1;
            int[] answers = {1, 6, 3, 1, NONE, 1};
            due.is(answers[call], answer);
            due.ranges(k, 15, 14);
            due.is(15, k.range(1, 4));
            due.is(1, k.total(2));
        }
    }

    private static void nextOfAll() {
        due.about("22: The least one above THE ANSWER: 1; 0: there is none (THE ANSWER stays)");
        NarrowingKernel k = Worlds.with(2, 0, 15);
        due.is(1, k.solve());
        for (int i = 1; i < 200; i++) {
            due.is(1, k.next());
            due.is(i % 16, k.answer(1));
        }
        due.answers(k, 12, 7);
        k = Worlds.with(3, 14, 15);
        k.solve();
        for (int i = 1; i < 8; i++) {
            due.is(1, k.next());
            due.answers(k, 14 + i / 4, 14 + i / 2 % 2, 14 + i % 2);
        }
        due.is(0, k.next());
        due.answers(k, 15, 15, 15);
        due.is(0, k.next());
        due.answers(k, 15, 15, 15);
    }

    private static void nextOfTenUnknowns() {
        due.about("22: above it by UNKNOWN 0, then 1, so on: of 10");
        NarrowingKernel k = new NarrowingKernel();
        for (int x = 0; x < 10; x++) {
            k.unknown(0, x == 0 || x == 9 ? 1 : 0);
        }
        k.solve();
        due.is(1, k.next());
        due.answers(k, 0, 0, 0, 0, 0, 0, 0, 0, 0, 1);
        due.is(1, k.next());
        due.answers(k, 1, 0, 0, 0, 0, 0, 0, 0, 0, 0);
        due.is(1, k.next());
        due.is(0, k.next());
        due.answers(k, 1, 0, 0, 0, 0, 0, 0, 0, 0, 1);
    }

    private static void nextByWhatIsNow() {
        due.about("22: (out of RANGES, by RULES as they are now)");
        NarrowingKernel k = Worlds.with(2, 0, 3);
        k.solve();
        due.answers(k, 0, 0);
        // from an ANSWER that is out of the RANGES by now
        k.step(0, IS_AT_LEAST, 2);
        k.step(1, IS_AT_MOST, 1);
        due.is(1, k.next());
        due.answers(k, 2, 0);
        due.is(1, k.next());
        due.is(1, k.next());
        due.answers(k, 3, 0);
        // above it, though the RANGES of UNKNOWN 0 end below it
        k.undo(0);
        k.step(0, IS_AT_MOST, 2);
        due.is(0, k.next());
        due.answers(k, 3, 0);
        k.undo(0);
        // by a RULE that came since, and without it
        k.solve();
        Worlds.ruleOf(k, UNLIKE, 0, 0, 0, 0, 0);
        due.answers(k, 0, 0);
        due.is(1, k.next());
        due.answers(k, 0, 1);
        k.stand(0, false);
        k.solve();
        due.is(1, k.next());
        due.is(1, k.next());
        due.is(1, k.next());
        due.is(1, k.next());
        due.answers(k, 1, 0);
    }

    private static void nextPastWhatNoLongerFits() {
        due.about("22: from an ANSWER that FITS no longer: the least one above it still");
        // 0 0 0: 0 and 1 may not be the same any more, whatever 2 is
        NarrowingKernel k = Worlds.with(3, 0, 1);
        k.solve();
        Worlds.ruleOf(k, UNLIKE, 0, 0, 0, 0, 0);
        due.is(1, k.next());
        due.answers(k, 0, 1, 0);
        // 0 0: 0 1 does not fit, though it is all that is above by UNKNOWN 1
        k = Worlds.with(2, 0, 1);
        k.solve();
        Worlds.ruleOf(k, SUM, NOT, 1, 0, 1, 1);
        due.is(1, k.next());
        due.answers(k, 1, 1);
    }

    private static void justOneWay() {
        due.about("21 to 27: just one way to choose");
        NarrowingKernel k = Worlds.with(2, 0, 15);
        k.solve();
        k.step(0, IS_JUST, 7);
        k.step(1, IS_JUST, 15);
        due.is(1, k.next());
        due.answers(k, 7, 15);
        due.is(0, k.next());
        due.is(1, k.count(20000));
        due.is(1, k.has(0, IS_JUST, 7));
        due.is(0, k.has(0, IS_NOT, 7));
        due.is(7, k.best(0, false));
        due.is(15, k.best(1, true));
        due.answers(k, 7, 15);
        due.is(1, k.solve());
        due.answers(k, 7, 15);
        due.is(NONE, k.core());
    }

    private static void nextWithoutAnswers() {
        due.about("22: 0: there is none, as there are no ANSWERS at all any more");
        NarrowingKernel k = Worlds.with(2, 0, 3);
        k.best(1, true);
        due.answers(k, 0, 3);
        k.rule(CLAUSE, 0, 0);
        due.is(0, k.next());
        due.answers(k, 0, 3);
        k.stand(0, false);
        due.is(1, k.next());
        due.answers(k, 1, 0);
    }

    private static void nextWithoutTheAnswer() {
        due.about("22: STATE: there is no ANSWER, or an UNKNOWN came since");
        NarrowingKernel k = Worlds.with(2, 0, 3);
        due.is(STATE, k.next());
        due.is(16, k.count(99));
        due.is(2, k.has(0, IS_JUST, 0));
        due.is(NONE, k.core());
        due.is(STATE, k.next());
        k.solve();
        due.is(1, k.next());
        k.unknown(0, 0);
        due.is(STATE, k.next());
        due.answers(k, 0, 1, STATE);
        k.solve();
        due.is(1, k.next());
        due.answers(k, 0, 1, 0);
        // RULES and TABLES that come do no harm to it
        k.rule(UNLIKE, 0, 0);
        k.table(0, 0, 1);
        due.is(1, k.next());
        k.rule(CLAUSE, 0, 0);
        due.is(0, k.solve());
        due.is(STATE, k.next());
        due.is(NONE, k.best(0, true));
        due.is(STATE, k.next());
    }

    private static void nextFar() {
        due.about("22: FAR");
        NarrowingKernel k = Worlds.far();
        due.is(FAR, k.next());
        due.answers(k, 0, 4, 0, 0, 0);
        // by the ways out of the RANGES, not by those that are above THE ANSWER
        k = Worlds.far();
        k.stand(0, true);
        due.is(0, k.next());
        k.stand(0, false);
        due.is(FAR, k.next());
        k.step(4, IS_NOT, 0);
        due.is(1, k.next());
        due.answers(k, 0, 4, 0, 0, 1);
    }

    private static void answerOfUnknowns() {
        due.about("23: UNKNOWN; STATE: there is none, or it came since");
        NarrowingKernel k = new NarrowingKernel();
        due.is(UNKNOWN, k.answer(0));
        due.is(1, k.solve());
        due.is(UNKNOWN, k.answer(0));
        for (int x = 0; x < 9; x++) {
            k.unknown(x, 15);
        }
        due.is(STATE, k.answer(0));
        due.is(STATE, k.answer(8));
        due.is(UNKNOWN, k.answer(9));
        due.is(UNKNOWN, k.answer(-1));
        for (int x = 0; x < 9; x++) {
            Worlds.clauseOf(k, x, IS_JUST, x);
        }
        due.is(1, k.solve());
        due.answers(k, 0, 1, 2, 3, 4, 5, 6, 7, 8);
        due.is(UNKNOWN, k.answer(9));
        k.unknown(15, 15);
        due.answers(k, 0, 1, 2, 3, 4, 5, 6, 7, 8, STATE);
        due.is(UNKNOWN, k.answer(10));
        due.is(1, k.solve());
        due.answers(k, 0, 1, 2, 3, 4, 5, 6, 7, 8, 15);
    }

    private static void countsMost() {
        due.about("24: How many ANSWERS there are, most at most (1 .. 20000). BAD");
        NarrowingKernel k = Worlds.with(4, 0, 9);
        k.unknown(0, 1);
        due.is(BAD, k.count(-1));
        due.is(BAD, k.count(0));
        due.is(1, k.count(1));
        due.is(2, k.count(2));
        due.is(19999, k.count(19999));
        due.is(20000, k.count(20000));
        due.is(BAD, k.count(20001));
        // one fewer than may be counted, just as many, one more
        k = Worlds.with(3, 0, 3);
        Worlds.ruleOf(k, UNLIKE, 0, 0, 0, 0, 0, 0);
        due.is(23, k.count(23));
        due.is(24, k.count(24));
        due.is(24, k.count(25));
        due.is(24, k.count(20000));
        due.is(0, without().count(1));
        due.is(0, without().count(20000));
        due.is(0, Worlds.dead().count(20000));
        due.is(1, new NarrowingKernel().count(1));
        due.is(BAD, new NarrowingKernel().count(0));
    }

    private static void countFar() {
        due.about("24: FAR: also, if but few of them are to be counted");
        NarrowingKernel k = Worlds.far();
        due.is(FAR, k.count(1));
        due.is(FAR, k.count(20000));
        due.is(BAD, k.count(0));
        due.is(BAD, k.count(20001));
        k.hole(0, 1);
        due.is(15015, k.count(20000));
    }

    private static void bestOfUnknowns() {
        due.about("25: The least NUMBER of an UNKNOWN in any ANSWER, or the greatest; the least ANSWER with it");
        NarrowingKernel k = new NarrowingKernel();
        due.is(UNKNOWN, k.best(0, false));
        due.is(UNKNOWN, k.best(0, true));
        for (int x = 0; x < 9; x++) {
            k.unknown(15, 15);
        }
        k.unknown(0, 15);
        due.is(0, k.best(9, false));
        due.answers(k, 15, 15, 15, 15, 15, 15, 15, 15, 15, 0);
        due.is(15, k.best(9, true));
        due.answers(k, 15, 15, 15, 15, 15, 15, 15, 15, 15, 15);
        due.is(15, k.best(0, false));
        due.answers(k, 15, 15, 15, 15, 15, 15, 15, 15, 15, 0);
        due.is(UNKNOWN, k.best(10, false));
        due.is(UNKNOWN, k.best(-1, true));
        // no NUMBER is of ANSWERS but those in between
        k = Worlds.with(3, 0, 3);
        Worlds.ruleOf(k, SUM, EXACTLY, 5, 0, 2, 2, 1);
        due.is(0, k.best(1, false));
        due.answers(k, 1, 0, 3);
        due.is(2, k.best(1, true));
        due.answers(k, 0, 2, 1);
        due.is(1, k.best(2, false));
        due.answers(k, 0, 2, 1);
        due.is(3, k.best(2, true));
        due.answers(k, 0, 1, 3);
    }

    private static void bestOfNone() {
        due.about("25: NONE: there is none (then no ANSWER is told)");
        for (int greatest = 0; greatest < 2; greatest++) {
            NarrowingKernel k = without();
            k.stand(0, false);
            k.solve();
            k.stand(0, true);
            due.answers(k, 0, 0, 0);
            due.is(NONE, k.best(2, greatest == 1));
            due.answers(k, STATE, STATE, STATE);
            due.is(STATE, k.next());
            k = Worlds.dead();
            due.is(3, k.answer(1));
            due.is(NONE, k.best(0, greatest == 1));
            due.answers(k, STATE, STATE, STATE);
        }
    }

    private static void bestFar() {
        due.about("25: FAR");
        for (int greatest = 0; greatest < 2; greatest++) {
            NarrowingKernel k = Worlds.far();
            due.is(FAR, k.best(0, greatest == 1));
            due.answers(k, 0, 4, 0, 0, 0);
            due.is(UNKNOWN, k.best(5, greatest == 1));
            k.hole(4, 12);
            due.is(greatest == 1 ? 3 : 0, k.best(0, greatest == 1));
            due.answers(k, greatest == 1 ? 3 : 0, 0, 0, 0, 0);
        }
    }

    private static void hasOfLiterals() {
        due.about("26: Whether a LITERAL is so in all ANSWERS 1, in none 0, in some 2");
        NarrowingKernel k = Worlds.with(2, 5, 10);
        Worlds.ruleOf(k, SUM, EXACTLY, 15, 0, 1, 1);
        Worlds.clauseOf(k, 0, IS_NOT, 7);
        // 0 is 5, 6, 8, 9 or 10
        for (int v = 0; v < 16; v++) {
            due.is(v < 5 ? 0 : v >= 10 ? 1 : 2, k.has(0, IS_AT_MOST, v));
            due.is(v <= 5 ? 1 : v > 10 ? 0 : 2, k.has(0, IS_AT_LEAST, v));
            boolean may = v >= 5 && v <= 10 && v != 7;
            due.is(may ? 2 : 1, k.has(0, IS_NOT, v));
            due.is(may ? 2 : 0, k.has(0, IS_JUST, v));
        }
        due.answers(k, STATE, STATE);
    }

    private static void hasRefused() {
        due.about("26: UNKNOWN; BAD; FAR");
        NarrowingKernel k = new NarrowingKernel();
        due.is(UNKNOWN, k.has(0, 0, 0));
        for (int x = 0; x < 10; x++) {
            k.unknown(0, 0);
        }
        due.is(UNKNOWN, k.has(-1, 0, 0));
        due.is(UNKNOWN, k.has(10, 0, 0));
        for (int sort = -1; sort <= 4; sort++) {
            for (int v = -1; v <= 16; v++) {
                boolean may = sort >= 0 && sort <= 3 && v >= 0 && v <= 15;
                boolean is = sort == IS_AT_MOST || sort != IS_NOT && v == 0 || sort == IS_NOT && v != 0;
                due.is(may ? is ? 1 : 0 : BAD, k.has(9, sort, v));
            }
        }
        k = Worlds.far();
        due.is(FAR, k.has(0, IS_AT_MOST, 15));
        due.is(FAR, k.has(0, IS_JUST, 15));
        k.hole(4, 12);
        due.is(1, k.has(0, IS_AT_MOST, 15));
        due.is(0, k.has(0, IS_JUST, 15));
    }

    private static void hasOfNone() {
        due.about("26: 3: there are none");
        for (int sort = 0; sort < 4; sort++) {
            for (int v = 0; v < 16; v++) {
                due.is(3, without().has(2, sort, v));
            }
            due.is(3, Worlds.dead().has(0, sort, 0));
        }
    }

    private static void coreWithAnswers() {
        due.about("27: NONE: there are ANSWERS");
        NarrowingKernel k = new NarrowingKernel();
        due.is(NONE, k.core());
        k.unknown(0, 1);
        due.is(NONE, k.core());
        k.step(0, IS_JUST, 1);
        due.is(NONE, k.core());
        // just one
        k = Worlds.with(3, 0, 1);
        Worlds.ruleOf(k, SUM, EXACTLY, 2, 0, 2, 2, 2);
        k.step(0, IS_JUST, 0);
        k.step(1, IS_JUST, 0);
        due.is(NONE, k.core());
        k.step(2, IS_JUST, 0);
        due.is(3, k.core());
        due.reasons(k, 0, 1, 2);
    }

    private static void coreLeavesOut() {
        due.about("27: of the STEPS, from the first on, each is left out, if there is still none without it");
        NarrowingKernel k = Worlds.with(4, 0, 1);
        Worlds.ruleOf(k, SUM, NOT, 1, 0, 1, 1);
        k.step(0, IS_JUST, 0);
        k.step(1, IS_AT_LEAST, 1);
        k.step(0, IS_AT_MOST, 0);
        k.step(3, IS_JUST, 1);
        k.step(1, IS_JUST, 1);
        k.step(2, IS_JUST, 0);
        due.is(2, k.core());
        due.reasons(k, 2, 4);
        // all 12 of them
        k = Worlds.with(1, 0, 15);
        Worlds.clauseOf(k, 0, IS_AT_MOST, 11);
        k.unknown(0, 0);
        Worlds.ruleOf(k, SUM, AT_MOST, -1, 0, -1);
        k.stand(1, false);
        for (int d = 0; d < 11; d++) {
            k.step(0, IS_NOT, d);
        }
        due.is(NONE, k.core());
        k.step(0, IS_AT_LEAST, 12);
        due.is(1, k.core());
        due.reasons(k, 11);
        k.undo(11);
        k.step(0, IS_NOT, 11);
        due.is(12, k.core());
        due.reasons(k, 0, 1, 2, 3, 4, 5, 6, 7, 8, 9, 10, 11);
    }

    private static void coreOfTheToldRanges() {
        due.about("27: the RANGES TOLD, cut by all STEPS: also when they are narrowed since");
        NarrowingKernel k = Worlds.with(2, 0, 3);
        Worlds.ruleOf(k, SUM, EXACTLY, 3, 0, 1, 1);
        k.step(0, IS_AT_LEAST, 2);
        k.narrow();
        due.ranges(k, 12, 3);
        due.is(NONE, k.core());
        k.step(0, IS_JUST, 3);
        k.step(1, IS_JUST, 1);
        due.is(2, k.core());
        due.reasons(k, 1, 2);
        due.ranges(k, 8, 2);
    }

    private static void coreWithoutSteps() {
        due.about("27: no STEPS: 0 are left, if there is no ANSWER");
        NarrowingKernel k = without();
        due.is(0, k.core());
        due.reasons(k);
        k.step(0, IS_JUST, 0);
        due.is(0, k.core());
        due.reasons(k);
        k.step(1, IS_JUST, 0);
        due.is(0, k.core());
        due.reasons(k);
    }

    private static void coreFar() {
        due.about("27: FAR: of the RANGES TOLD, cut by none, NARROWED");
        NarrowingKernel k = Worlds.far();
        due.is(FAR, k.core());
        // by STEPS there are few ways, yet they are cut by none
        k.step(4, IS_JUST, 0);
        k.step(3, IS_JUST, 0);
        due.is(4 * 5 * 7, k.count(20000));
        due.is(FAR, k.core());
        // narrowed there are few
        k.undo(0);
        k.stand(0, true);
        due.is(NONE, k.core());
        k.stand(0, false);
        due.is(FAR, k.core());
        k.hole(4, 12);
        due.is(NONE, k.core());
        // none at all by the STEPS, but too many TOLD
        k = Worlds.far();
        Worlds.ruleOf(k, SUM, NOT, 0, 0, 1);
        k.stand(1, false);
        due.is(FAR, k.core());
        k.stand(1, true);
        due.is(NONE, k.core());
        due.is(15015, k.count(20000));
    }

    private static void coreOfTheDead() {
        due.about("27: (if that is DEAD, 0 are left)");
        NarrowingKernel k = Worlds.far();
        k.rule(CLAUSE, 0, 0);
        due.is(0, k.core());
        due.reasons(k);
        k.step(0, IS_JUST, 0);
        due.is(0, k.core());
        due.reasons(k);
        k = Worlds.with(2, 0, 3);
        Worlds.clauseOf(k, 0, IS_AT_LEAST, 4);
        k.step(1, IS_JUST, 0);
        due.is(0, k.core());
        due.reasons(k);
    }

    public static void main(String[] args) {
        leastAnswer();
        solveWithoutUnknowns();
        solveWithoutAnswers();
        solveFar();
        rangesStay();
        nextOfAll();
        nextOfTenUnknowns();
        nextByWhatIsNow();
        nextPastWhatNoLongerFits();
        justOneWay();
        nextWithoutAnswers();
        nextWithoutTheAnswer();
        nextFar();
        answerOfUnknowns();
        countsMost();
        countFar();
        bestOfUnknowns();
        bestOfNone();
        bestFar();
        hasOfLiterals();
        hasRefused();
        hasOfNone();
        coreWithAnswers();
        coreLeavesOut();
        coreOfTheToldRanges();
        coreWithoutSteps();
        coreFar();
        coreOfTheDead();
        due.end();
    }
}
