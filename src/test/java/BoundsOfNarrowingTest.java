/** Promises 14 to 20: edges of narrowing, of steps, and of what they are to blame for. */
public final class BoundsOfNarrowingTest {
    private static final int UNKNOWN = -1, BAD = -2, STATE = -3, FULL = -4, NONE = -9;
    private static final int SUM = 0, UNLIKE = 1, TABLE = 2, LOAD = 3, RING = 4, CLAUSE = 5;
    private static final int AT_MOST = 0, EXACTLY = 1, NOT = 2;
    private static final int IS_AT_MOST = 0, IS_AT_LEAST = 1, IS_NOT = 2, IS_JUST = 3;
    private static final Due due = new Due("BoundsOfNarrowingTest");

    private static void narrowNothing() {
        due.about("14: how many NUMBERS went: none");
        NarrowingKernel k = new NarrowingKernel();
        due.is(0, k.narrow());
        k.unknown(0, 15);
        due.is(0, k.narrow());
        k.rule(UNLIKE, 0, 0);
        due.is(0, k.narrow());
        k.part(0, 0, 0, 0);
        due.is(0, k.narrow());
        due.ranges(k, 0xFFFF);
    }

    private static void narrowMost() {
        due.about("14: how many NUMBERS went: as many as can");
        NarrowingKernel k = Worlds.with(10, 0, 15);
        for (int x = 0; x < 10; x++) {
            Worlds.clauseOf(k, x, IS_JUST, x + 3);
        }
        due.is(150, k.narrow());
        for (int x = 0; x < 10; x++) {
            due.is(8 << x, k.range(x, 3));
            due.is(0xFFFF, k.range(x, 4));
        }
        due.is(0, k.narrow());
        // of the RANGES as they are: what is gone already does not go
        k.stand(0, true);
        k.step(0, IS_AT_MOST, 3);
        due.is(138, k.narrow());
    }

    private static void narrowToDead() {
        due.about("14: STATE: DEAD: then RANGES are as they were");
        NarrowingKernel k = Worlds.with(3, 0, 3);
        Worlds.clauseOf(k, 0, IS_AT_MOST, 2);
        due.is(1, k.narrow());
        k.step(0, IS_NOT, 0);
        k.step(1, IS_JUST, 3);
        due.ranges(k, 6, 8, 15);
        due.is(STATE, Worlds.dead().narrow());
        // the first RULES take some before the last ones take all
        k = Worlds.with(3, 0, 3);
        Worlds.clauseOf(k, 0, IS_AT_MOST, 2);
        Worlds.clauseOf(k, 1, IS_AT_MOST, 1);
        due.is(3, k.narrow());
        k.step(0, IS_NOT, 0);
        due.ranges(k, 6, 3, 15);
        due.is(0, k.narrow());
        k.undo(0);
        Worlds.clauseOf(k, 2, IS_JUST, 0);
        Worlds.clauseOf(k, 2, IS_JUST, 1);
        due.is(STATE, k.narrow());
        due.ranges(k, 15, 15, 15);
        k.step(0, IS_NOT, 0);
        due.is(STATE, k.narrow());
        due.ranges(k, 14, 15, 15);
        due.is(1, k.total(2));
        due.is(0, k.total(4));
    }

    private static void narrowByTableThatIsTorn() {
        due.about("14: by RULES and TABLES as they are now");
        NarrowingKernel k = Worlds.with(1, 0, 3);
        Worlds.tableOf(k, 0, 1, 2);
        Worlds.ruleOf(k, TABLE, 0, 0, 0, 0);
        due.is(2, k.narrow());
        k.cell(0, 0, 2);
        due.is(3, k.narrow());
        k.cell(0, 0, 9);
        k.cell(0, 1, 9);
        due.is(STATE, k.narrow());
    }

    private static void takesOfRules() {
        due.about("15: UNKNOWN");
        NarrowingKernel k = new NarrowingKernel();
        due.is(UNKNOWN, k.takes(0));
        for (int r = 0; r < 16; r++) {
            k.rule(UNLIKE, 0, 0);
        }
        due.is(0, k.takes(0));
        due.is(0, k.takes(15));
        due.is(UNKNOWN, k.takes(16));
        due.is(UNKNOWN, k.takes(-1));
    }

    private static void takesWithoutParts() {
        due.about("15: of a RULE without PARTS: none, also if none FITS it");
        for (int kind = SUM; kind <= CLAUSE; kind++) {
            for (int a = 0; a <= 2; a++) {
                NarrowingKernel k = Worlds.with(2, 0, 15);
                k.rule(kind, a, -1);
                due.is(0, k.takes(0));
                k.rule(kind, a, 0);
                due.is(0, k.takes(1));
            }
        }
    }

    private static void takesAsItStandsOrNot() {
        due.about("15: RULE r alone, as it stands or not");
        NarrowingKernel k = Worlds.with(2, 0, 15);
        Worlds.clauseOf(k, 0, IS_AT_MOST, 9);
        Worlds.clauseOf(k, 0, IS_AT_MOST, 4);
        k.rule(CLAUSE, 0, 0);
        due.is(6, k.takes(0));
        due.is(11, k.takes(1));
        k.stand(0, false);
        k.stand(2, false);
        due.is(6, k.takes(0));
        due.is(11, k.narrow());
        due.is(0, k.takes(0));
        due.ranges(k, 0x1F);
    }

    private static void takesAtOnce() {
        due.about("15: looked at once, each NUMBER by the RANGES as they are");
        // x + y is 12, of 0 .. 15 and 0 .. 8: x is 4 .. 12; y, by x as it is, may be all
        NarrowingKernel k = new NarrowingKernel();
        k.unknown(0, 15);
        k.unknown(0, 8);
        Worlds.ruleOf(k, SUM, EXACTLY, 12, 0, 1, 1);
        due.is(4 + 3, k.takes(0));
        due.ranges(k, 0xFFFF, 0x1FF);
        due.is(7, k.takes(0));
        // 0 .. 5 each, 2 x + 2 y is 5: at once those above 2 go, then the others, one behind the other
        k = Worlds.with(2, 0, 5);
        Worlds.ruleOf(k, SUM, EXACTLY, 5, 0, 2, 2);
        due.is(6, k.takes(0));
        due.is(STATE, k.narrow());
        // PARTS behind one another in one RULE do not see what the ones ahead of them lost
        k = Worlds.with(2, 0, 5);
        Worlds.ruleOf(k, SUM, AT_MOST, 0, 0, 1, -2);
        due.is(0, k.takes(0));
        k.step(1, IS_AT_MOST, 1);
        due.is(3, k.takes(0));
        // a CLAUSE of which all is false takes all of each UNKNOWN, once
        k = Worlds.with(2, 0, 5);
        Worlds.clauseOf(k, 0, IS_AT_LEAST, 6, 1, IS_AT_LEAST, 6, 0, IS_JUST, 7);
        due.is(12, k.takes(0));
    }

    private static void takesMost() {
        due.about("15: all NUMBERS of 6 PARTS");
        NarrowingKernel k = Worlds.with(6, 0, 15);
        Worlds.ruleOf(k, TABLE, 0, 0, 0, 0, 0, 0, 0, 0, 0);
        due.is(96, k.takes(0));
        Worlds.ruleOf(k, SUM, AT_MOST, -1, 0, 1, 1, 1, 1, 1, 1);
        due.is(96, k.takes(1));
        Worlds.ruleOf(k, LOAD, 0, 0, 1, 1, 1, 1, 1, 1, 1);
        due.is(96, k.takes(2));
        Worlds.ruleOf(k, RING, 0, 0, 0, 0, 0, 0, 0, 0, 0);
        due.is(66, k.takes(3));
    }

    private static void stepsUnknown() {
        due.about("16: UNKNOWN; BAD: sort, v");
        NarrowingKernel k = new NarrowingKernel();
        due.is(UNKNOWN, k.step(0, 0, 0));
        for (int x = 0; x < 10; x++) {
            k.unknown(0, 15);
        }
        due.is(UNKNOWN, k.step(-1, 0, 0));
        due.is(UNKNOWN, k.step(10, 0, 0));
        for (int sort = -1; sort <= 4; sort++) {
            for (int v = -1; v <= 16; v++) {
                boolean may = sort >= 0 && sort <= 3 && v >= 0 && v <= 15;
                due.is(may ? 0 : BAD, k.step(9, sort, v));
                due.is(may ? 1 : 0, k.undo(0));
            }
        }
    }

    private static void stepThatLeavesNone() {
        due.about("16: STATE: no NUMBER of the RANGE is left");
        NarrowingKernel k = Worlds.with(1, 4, 6);
        due.is(STATE, k.step(0, IS_AT_MOST, 3));
        due.is(STATE, k.step(0, IS_AT_LEAST, 7));
        due.is(STATE, k.step(0, IS_JUST, 3));
        due.is(STATE, k.step(0, IS_JUST, 7));
        due.is(0, k.total(2));
        due.is(0, k.step(0, IS_AT_MOST, 4));
        due.is(STATE, k.step(0, IS_NOT, 4));
        due.is(STATE, k.step(0, IS_JUST, 5));
        due.is(1, k.step(0, IS_AT_LEAST, 4));
        due.is(2, k.step(0, IS_JUST, 4));
        due.is(3, k.step(0, IS_NOT, 5));
        due.ranges(k, 0x10);
        // of the RANGE as it is, also by narrowing, not as TOLD
        k = Worlds.with(1, 4, 6);
        Worlds.clauseOf(k, 0, IS_AT_MOST, 5);
        due.is(0, k.step(0, IS_JUST, 6));
        k.undo(0);
        due.is(1, k.narrow());
        due.is(STATE, k.step(0, IS_JUST, 6));
    }

    private static void stepOnTheRangesAsTheyAre() {
        due.about("16: RANGES have the NUMBERS that make it so (NARROWED by nothing yet)");
        NarrowingKernel k = Worlds.with(2, 0, 3);
        Worlds.ruleOf(k, UNLIKE, 0, 0, 0, 0, 0);
        due.is(0, k.step(0, IS_JUST, 2));
        due.ranges(k, 4, 15);
        due.is(1, k.step(1, IS_NOT, 0));
        due.ranges(k, 4, 14);
        due.is(1, k.narrow());
        due.ranges(k, 4, 10);
        // a STEP that takes nothing is one, too
        due.is(2, k.step(0, IS_AT_MOST, 15));
        due.ranges(k, 4, 10);
        due.is(3, k.total(2));
    }

    private static void thirteenSteps() {
        due.about("16: its number; FULL");
        NarrowingKernel k = Worlds.with(2, 0, 15);
        for (int d = 0; d < 12; d++) {
            due.is(d, k.step(d % 2, IS_NOT, d));
            due.is(d + 1, k.total(2));
        }
        due.is(FULL, k.step(0, IS_NOT, 13));
        due.is(FULL, k.step(1, IS_AT_MOST, 15));
        due.is(12, k.total(2));
        due.ranges(k, 0xFFFF & ~0x555, 0xFFFF & ~0xAAA);
        k.undo(11);
        due.is(11, k.step(0, IS_NOT, 13));
        due.is(FULL, k.step(0, IS_NOT, 14));
    }

    private static void undoOfNumbers() {
        due.about("17: BAD: d is not 0 .. how many there are");
        NarrowingKernel k = Worlds.with(1, 0, 15);
        for (int steps = 0; steps <= 12; steps++) {
            due.is(BAD, k.undo(-1));
            due.is(BAD, k.undo(steps + 1));
            due.is(0, k.undo(steps));
            due.is(steps, k.total(2));
            due.is(steps < 12 ? steps : FULL, k.step(0, IS_NOT, steps));
        }
        due.is(12, k.undo(0));
        due.is(BAD, k.undo(1));
        due.is(0, k.undo(0));
        due.ranges(k, 0xFFFF);
    }

    private static void undoOfAllKinds() {
        due.about("17: STEPS from number d on are gone: RANGES are as they were ahead of STEP d: how many went");
        for (int d = 0; d <= 12; d++) {
            NarrowingKernel k = Worlds.with(3, 0, 15);
            Worlds.ruleOf(k, UNLIKE, 0, 0, 0, 0, 0, 0);
            int[][] ahead = new int[13][3];
            for (int i = 0; i < 12; i++) {
                for (int x = 0; x < 3; x++) {
                    ahead[i][x] = k.range(x, 3);
                }
                k.step(i % 3, i < 9 ? IS_NOT : IS_AT_LEAST, i);
                if (i % 2 == 0) {
                    k.narrow();
                }
            }
            for (int x = 0; x < 3; x++) {
                ahead[12][x] = k.range(x, 3);
            }
            due.is(12 - d, k.undo(d));
            due.ranges(k, ahead[d]);
            due.is(d, k.total(2));
        }
    }

    private static void undoKeepsWhatWasNarrowed() {
        due.about("17: as they were ahead of STEP d: narrowed, not as TOLD");
        NarrowingKernel k = Worlds.with(1, 0, 15);
        Worlds.clauseOf(k, 0, IS_AT_MOST, 5);
        k.narrow();
        due.is(0, k.undo(0));
        due.ranges(k, 0x3F);
        k.step(0, IS_AT_MOST, 2);
        due.is(1, k.undo(0));
        due.ranges(k, 0x3F);
        // narrowed behind the STEP: that goes with it
        k = Worlds.with(1, 0, 15);
        Worlds.clauseOf(k, 0, IS_AT_MOST, 5);
        k.step(0, IS_AT_LEAST, 3);
        due.is(10, k.narrow());
        due.is(1, k.undo(0));
        due.ranges(k, 0xFFFF);
        // what is narrowed behind the last STEP stays, if none goes
        k.step(0, IS_AT_LEAST, 3);
        k.narrow();
        due.is(0, k.undo(1));
        due.ranges(k, 0x38);
    }

    private static void undoAndReasons() {
        due.about("17: THE ANSWER, the reasons and the LINES stay");
        NarrowingKernel k = Worlds.stepped();
        int first = k.answer(0), reason = k.reason(0);
        due.is(3, k.undo(0));
        due.is(first, k.answer(0));
        due.is(reason, k.reason(0));
        due.is(2, k.total(3));
        due.is(2, k.total(4));
    }

    private static void rangesWhat() {
        due.about("18: 0 how many NUMBERS, 1 the least, 2 the greatest; 3 the bits; 4 those as TOLD");
        for (int least = 0; least < 16; least++) {
            for (int greatest = least; greatest < 16; greatest++) {
                NarrowingKernel k = Worlds.with(1, 0, 15);
                k.hole(0, (greatest + 1) % 16);
                k.step(0, IS_AT_LEAST, least);
                int steps = k.step(0, IS_AT_MOST, greatest);
                int bits = 0;
                for (int v = least; v <= greatest; v++) {
                    bits |= v == (greatest + 1) % 16 ? 0 : 1 << v;
                }
                due.is(1, steps);
                due.is(Integer.bitCount(bits), k.range(0, 0));
                due.is(Integer.numberOfTrailingZeros(bits), k.range(0, 1));
                due.is(greatest, k.range(0, 2));
                due.is(bits, k.range(0, 3));
                due.is(0xFFFF & ~(1 << (greatest + 1) % 16), k.range(0, 4));
            }
        }
    }

    private static void rangesUnknown() {
        due.about("18: UNKNOWN; BAD");
        NarrowingKernel k = new NarrowingKernel();
        due.is(UNKNOWN, k.range(0, 0));
        for (int x = 0; x < 10; x++) {
            k.unknown(x, x);
        }
        due.is(9, k.range(9, 1));
        due.is(UNKNOWN, k.range(10, 0));
        due.is(UNKNOWN, k.range(-1, 0));
        due.is(BAD, k.range(0, -1));
        due.is(BAD, k.range(0, 5));
    }

    private static void whyOfNumbers() {
        due.about("19: UNKNOWN; BAD: v");
        NarrowingKernel k = new NarrowingKernel();
        due.is(UNKNOWN, k.why(0, 0));
        k.unknown(0, 15);
        k.step(0, IS_AT_LEAST, 1);
        due.is(UNKNOWN, k.why(1, 0));
        due.is(UNKNOWN, k.why(-1, 0));
        due.is(BAD, k.why(0, -1));
        due.is(BAD, k.why(0, 16));
        due.is(1, k.why(0, 0));
        k.step(0, IS_NOT, 15);
        due.is(1, k.why(0, 15));
        due.reasons(k, 1);
    }

    private static void whyOfWhatIsNotTold() {
        due.about("19: STATE: it is not TOLD");
        NarrowingKernel k = Worlds.with(1, 2, 9);
        k.hole(0, 5);
        k.step(0, IS_JUST, 3);
        due.is(STATE, k.why(0, 1));
        due.is(STATE, k.why(0, 10));
        due.is(STATE, k.why(0, 5));
        due.is(1, k.why(0, 2));
        due.is(1, k.why(0, 9));
        // also, if all is DEAD
        k = Worlds.with(1, 2, 9);
        k.rule(CLAUSE, 0, 0);
        due.is(STATE, k.why(0, 1));
        due.is(0, k.why(0, 2));
    }

    private static void whyOfWhatIsNotLacked() {
        due.about("19: STATE: or with all STEPS it is not lacked");
        NarrowingKernel k = Worlds.with(2, 0, 3);
        due.is(STATE, k.why(0, 0));
        Worlds.ruleOf(k, UNLIKE, 0, 0, 0, 0, 0);
        k.step(0, IS_AT_MOST, 1);
        due.is(STATE, k.why(0, 1));
        due.is(STATE, k.why(1, 0));
        due.is(1, k.why(0, 2));
        k.step(0, IS_NOT, 1);
        due.is(2, k.why(1, 0));
        due.reasons(k, 0, 1);
        due.is(STATE, k.why(1, 1));
    }

    private static void whyWithoutSteps() {
        due.about("19: no STEPS: 0 are left, if narrowing alone takes it");
        NarrowingKernel k = Worlds.with(1, 0, 3);
        Worlds.clauseOf(k, 0, IS_AT_MOST, 1);
        due.is(0, k.why(0, 2));
        due.reasons(k);
        due.is(STATE, k.why(0, 1));
        // of the RANGES TOLD, not as they are: the same when they are narrowed
        k.narrow();
        due.is(0, k.why(0, 2));
        due.is(STATE, k.why(0, 1));
        // a STEP that is put is not to blame for what narrowing alone takes
        k.step(0, IS_AT_MOST, 1);
        due.is(0, k.why(0, 2));
        due.reasons(k);
    }

    private static void whyFromTheFirstOn() {
        due.about("19: of all STEPS, from the first on, each is left out, if without it they still lack it");
        NarrowingKernel k = Worlds.with(1, 0, 15);
        for (int d = 0; d < 12; d++) {
            due.is(d, k.step(0, IS_AT_MOST, 14 - d));
        }
        // each of them that is at most 14 - d lacks 15; the last one alone is left
        due.is(1, k.why(0, 15));
        due.reasons(k, 11);
        due.is(1, k.why(0, 4));
        due.reasons(k, 11);
        due.is(STATE, k.why(0, 3));
        // all twelve are needed
        k = Worlds.with(1, 0, 15);
        Worlds.clauseOf(k, 0, IS_AT_MOST, 11, 0, IS_JUST, 15);
        for (int d = 0; d < 11; d++) {
            k.step(0, IS_NOT, d);
        }
        k.step(0, IS_NOT, 15);
        due.is(1, k.why(0, 15));
        due.reasons(k, 11);
        k = Worlds.with(2, 0, 12);
        Worlds.ruleOf(k, UNLIKE, 0, 0, 0, 0, 0);
        for (int d = 0; d < 12; d++) {
            k.step(0, IS_NOT, d);
        }
        due.is(12, k.why(1, 12));
        due.reasons(k, 0, 1, 2, 3, 4, 5, 6, 7, 8, 9, 10, 11);
    }

    private static void whyOfTheDead() {
        due.about("19: (also, if they are DEAD)");
        NarrowingKernel k = Worlds.with(3, 0, 1);
        Worlds.ruleOf(k, UNLIKE, 0, 0, 0, 0, 0);
        k.step(2, IS_JUST, 0);
        k.step(0, IS_JUST, 1);
        k.step(1, IS_JUST, 1);
        due.is(STATE, k.narrow());
        // the third one, that no RULE looks at, lacks all NUMBERS too
        due.is(2, k.why(2, 0));
        due.reasons(k, 1, 2);
        // its own STEP is left out first, as without it they are DEAD
        due.is(2, k.why(2, 1));
        due.reasons(k, 1, 2);
        // the last STEP alone takes this one, as 1 is of UNKNOWN 1 then
        due.is(1, k.why(0, 1));
        due.reasons(k, 2);
    }

    private static void whyIsAskedOfWhatIsTold() {
        due.about("19: the RANGES TOLD, cut by the others, NARROWED: asked without a call of narrow()");
        NarrowingKernel k = Worlds.with(2, 0, 3);
        Worlds.ruleOf(k, SUM, EXACTLY, 3, 0, 1, 1);
        k.step(0, IS_AT_LEAST, 2);
        due.ranges(k, 12, 15);
        due.is(1, k.why(1, 2));
        due.ranges(k, 12, 15);
        due.is(1, k.total(2));
        // by RULES that stand alone
        k.undo(0);
        k.stand(0, false);
        k.step(0, IS_AT_LEAST, 2);
        due.is(STATE, k.why(1, 2));
    }

    private static void reasons() {
        due.about("20: STEP k of what the latest why() left, in order; NONE");
        NarrowingKernel k = Worlds.with(2, 0, 3);
        due.is(NONE, k.reason(0));
        due.is(NONE, k.reason(-1));
        Worlds.ruleOf(k, UNLIKE, 0, 0, 0, 0, 0);
        k.step(1, IS_AT_MOST, 3);
        k.step(0, IS_AT_MOST, 2);
        k.step(0, IS_AT_LEAST, 2);
        due.is(2, k.why(1, 2));
        due.is(1, k.reason(0));
        due.is(2, k.reason(1));
        due.is(NONE, k.reason(2));
        due.is(NONE, k.reason(-1));
        due.is(NONE, k.reason(12));
        // they stay, when the STEPS are gone, and when UNKNOWNS and RULES come
        k.undo(0);
        k.unknown(0, 1);
        k.stand(0, false);
        due.reasons(k, 1, 2);
        due.about("20: that was not refused");
        due.is(UNKNOWN, k.why(3, 0));
        due.is(BAD, k.why(0, 16));
        due.is(STATE, k.why(0, 0));
        due.reasons(k, 1, 2);
        due.about("20: the latest: none are left");
        k.rule(CLAUSE, 0, 0);
        due.is(0, k.why(0, 0));
        due.reasons(k);
    }

    private static void reasonsOfCore() {
        due.about("20: the latest why(), core() that was not refused");
        NarrowingKernel k = Worlds.with(2, 0, 1);
        Worlds.ruleOf(k, SUM, NOT, 1, 0, 1, 1);
        k.step(0, IS_JUST, 0);
        due.is(1, k.why(0, 1));
        due.reasons(k, 0);
        k.step(1, IS_JUST, 1);
        due.is(2, k.core());
        due.reasons(k, 0, 1);
        due.is(1, k.why(1, 1));
        due.reasons(k, 0);
        k.undo(1);
        // there are ANSWERS: none are left
        due.is(NONE, k.core());
        due.reasons(k);
        // core() that is FAR was refused
        k = Worlds.far();
        k.step(0, IS_NOT, 0);
        due.is(1, k.why(0, 0));
        due.is(-5, k.core());
        due.reasons(k, 0);
    }

    public static void main(String[] args) {
        narrowNothing();
        narrowMost();
        narrowToDead();
        narrowByTableThatIsTorn();
        takesOfRules();
        takesWithoutParts();
        takesAsItStandsOrNot();
        takesAtOnce();
        takesMost();
        stepsUnknown();
        stepThatLeavesNone();
        stepOnTheRangesAsTheyAre();
        thirteenSteps();
        undoOfNumbers();
        undoOfAllKinds();
        undoKeepsWhatWasNarrowed();
        undoAndReasons();
        rangesWhat();
        rangesUnknown();
        whyOfNumbers();
        whyOfWhatIsNotTold();
        whyOfWhatIsNotLacked();
        whyWithoutSteps();
        whyFromTheFirstOn();
        whyOfTheDead();
        whyIsAskedOfWhatIsTold();
        reasons();
        reasonsOfCore();
        due.end();
    }
}
