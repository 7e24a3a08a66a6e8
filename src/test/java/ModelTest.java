/** Long mixed runs, always the same ones, on the class and on NaiveModel side by side. */
public final class ModelTest {
    private static final int RUNS = 4000, MOST_CALLS = 512;
    private static long seed;
    private static int wrong = 0;
    private static NarrowingKernel kernel;
    private static NaiveModel model;
    private static StringBuilder told;
    private static int widest;
    private static int calls;
    private static final java.util.TreeMap<String, Integer> met = new java.util.TreeMap<>();

    private static int below(int n) {
        seed = seed * 6364136223846793005L + 1442695040888963407L;
        return (int) ((seed >>> 33) % n);
    }

    private static int from(int low, int high) {
        return low + below(high - low + 1);
    }

    /** Mostly low .. high, now and then just beside, or far away. */
    private static int about(int low, int high) {
        int dice = below(60);
        if (dice == 0) {
            return low - 1;
        }
        if (dice == 1) {
            return high + 1;
        }
        if (dice == 2) {
            return below(2) == 0 ? Integer.MIN_VALUE : Integer.MAX_VALUE;
        }
        return from(low, high);
    }

    private static int x() {
        return about(0, Math.max(0, model.total(0) - 1));
    }

    private static int r() {
        return about(0, Math.max(0, model.total(1) - 1));
    }

    private static int l() {
        return about(0, Math.max(0, model.total(3) - 1));
    }

    private static void due(String call, int got, int want) {
        calls++;
        if (calls > MOST_CALLS) {
            return; // nothing is promised any more
        }
        told.append(call).append(" = ").append(got).append("; ");
        String name = call.substring(0, call.indexOf('('));
        met.merge(name + " " + (want < 0 ? String.valueOf(want) : want == 0 ? "0" : "+"), 1, Integer::sum);
        if (got != want) {
            wrong++;
            System.out.println(told);
            System.out.println("  the last one is due " + want);
        }
    }

    private static void tell() {
        switch (below(13)) {
            case 0: case 1: case 2: {
                int low = about(0, 15 - widest), high = low + below(widest + 1);
                if (below(30) == 0) {
                    high = about(0, 15);
                }
                due("unknown(" + low + "," + high + ")", kernel.unknown(low, high), model.unknown(low, high));
                break;
            }
            case 3: {
                int a = x(), b = about(0, 15);
                due("hole(" + a + "," + b + ")", kernel.hole(a, b), model.hole(a, b));
                break;
            }
            case 4: case 5: {
                rule();
                break;
            }
            case 6: case 7: {
                part(r());
                break;
            }
            case 8: {
                int a = r();
                boolean is = below(3) > 0;
                due("stand(" + a + "," + is + ")", kernel.stand(a, is), model.stand(a, is));
                calm(a);
                break;
            }
            case 9: {
                int t = about(0, 5), lane = about(0, 2), n = about(0, 48);
                due("table(" + t + "," + lane + "," + n + ")", kernel.table(t, lane, n), model.table(t, lane, n));
                if (below(2) == 0) {
                    for (int i = 0; i < 24; i++) {
                        int v = from(0, widest);
                        due("cell(" + t + "," + i + "," + v + ")", kernel.cell(t, i, v), model.cell(t, i, v));
                    }
                }
                break;
            }
            case 10: {
                int t = about(0, 5);
                if (below(3) == 0) {
                    due("tear(" + t + ")", kernel.tear(t), model.tear(t));
                }
                break;
            }
            case 11: {
                int t = about(0, 5), i = about(0, 47), v = about(0, 15);
                due("cell(" + t + "," + i + "," + v + ")", kernel.cell(t, i, v), model.cell(t, i, v));
                break;
            }
            default: {
                int t = about(0, 5), i = about(0, 20), u = about(0, 5), j = about(0, 20), n = about(0, 20);
                due("copy(" + t + "," + i + "," + u + "," + j + "," + n + ")",
                        kernel.copy(t, i, u, j, n), model.copy(t, i, u, j, n));
                break;
            }
        }
    }

    private static void rule() {
        int kind = about(0, 5);
        int a = kind == 0 ? about(0, 2) : kind == 2 ? about(0, 5) : kind == 3 ? about(0, below(4) == 0 ? 100 : 12)
                : from(-9, 9);
        int b = kind == 0 ? about(-20, 40) : from(-9, 9);
        if (below(50) == 0) {
            b = about(-1000, 1000);
        }
        int number = model.rule(kind, a, b);
        due("rule(" + kind + "," + a + "," + b + ")", kernel.rule(kind, a, b), number);
        int parts = below(7);
        for (int i = 0; i < parts; i++) {
            if (kind == 5) {
                literal(number);
            } else {
                part(number);
            }
        }
        calm(number);
    }

    /** Most rules that leave no answer are taken out, so that runs are not all about dead ranges. */
    private static void calm(int r) {
        int want = model.count(1);
        due("count(1)", kernel.count(1), want);
        if (want == 0 && below(12) > 0) {
            due("stand(" + r + ",false)", kernel.stand(r, false), model.stand(r, false));
        }
    }

    private static void part(int r) {
        if (below(8) == 0) {
            literal(r);
            return;
        }
        int a = about(below(3) == 0 ? -9 : 0, below(3) == 0 ? 15 : 4), b = about(0, below(4) == 0 ? 20 : 6), x = x();
        due("part(" + r + "," + x + "," + a + "," + b + ")", kernel.part(r, x, a, b), model.part(r, x, a, b));
    }

    private static void literal(int r) {
        int x = x(), sort = about(0, 3), v = about(0, below(2) == 0 ? widest : 15);
        due("literal(" + r + "," + x + "," + sort + "," + v + ")",
                kernel.literal(r, x, sort, v), model.literal(r, x, sort, v));
    }

    private static void look() {
        int r = r(), t = about(0, 5), x = x(), k = about(0, 5), what = about(0, 4);
        switch (below(7)) {
            case 0:
                due("get(" + t + "," + k + ")", kernel.get(t, k), model.get(t, k));
                break;
            case 1:
                due("about(" + r + "," + k + ")", kernel.about(r, k), model.about(r, k));
                break;
            case 2:
                due("takes(" + r + ")", kernel.takes(r), model.takes(r));
                break;
            case 3: case 4:
                due("range(" + x + "," + what + ")", kernel.range(x, what), model.range(x, what));
                break;
            case 5:
                due("total(" + k + ")", kernel.total(k), model.total(k));
                break;
            default:
                due("reason(" + k + ")", kernel.reason(k), model.reason(k));
                break;
        }
    }

    private static void narrowing() {
        int x = x(), v = about(0, 15), sort = about(0, 3);
        switch (below(6)) {
            case 0:
                due("narrow()", kernel.narrow(), model.narrow());
                for (int y = 0; y < model.total(0); y++) {
                    due("range(" + y + ",3)", kernel.range(y, 3), model.range(y, 3));
                }
                break;
            case 1: case 2:
                due("step(" + x + "," + sort + "," + v + ")", kernel.step(x, sort, v), model.step(x, sort, v));
                break;
            case 3:
                if (below(3) == 0) {
                    int d = below(3) == 0 ? about(0, model.total(2)) : 0;
                    due("undo(" + d + ")", kernel.undo(d), model.undo(d));
                }
                break;
            default: {
                int want = model.why(x, v);
                due("why(" + x + "," + v + ")", kernel.why(x, v), want);
                for (int k = 0; k <= want; k++) {
                    due("reason(" + k + ")", kernel.reason(k), model.reason(k));
                }
                break;
            }
        }
    }

    private static void answers() {
        int x = x(), v = about(0, 15), sort = about(0, 3), most = below(2) == 0 ? about(1, 20000) : about(1, 10);
        boolean greatest = below(2) == 0;
        switch (below(8)) {
            case 0:
                due("solve()", kernel.solve(), model.solve());
                break;
            case 1: case 2:
                due("next()", kernel.next(), model.next());
                break;
            case 3:
                due("count(" + most + ")", kernel.count(most), model.count(most));
                break;
            case 4:
                due("best(" + x + "," + greatest + ")", kernel.best(x, greatest), model.best(x, greatest));
                break;
            case 5:
                due("has(" + x + "," + sort + "," + v + ")", kernel.has(x, sort, v), model.has(x, sort, v));
                break;
            case 6: {
                int want = model.core();
                due("core()", kernel.core(), want);
                for (int k = 0; k <= Math.max(0, want); k++) {
                    due("reason(" + k + ")", kernel.reason(k), model.reason(k));
                }
                break;
            }
            default:
                conflict();
                break;
        }
        for (int y = below(4) == 0 ? -1 : 0; y < model.total(0) + below(2); y++) {
            due("answer(" + y + ")", kernel.answer(y), model.answer(y));
        }
    }

    /** Steps that are not narrowed in between, till none fits: then which of them are to blame. */
    private static void conflict() {
        due("undo(0)", kernel.undo(0), model.undo(0));
        int want = model.core();
        for (int i = 0; i < 8 && want == NaiveModel.NONE; i++) {
            int x = from(0, Math.max(0, model.total(0) - 1)), sort = from(0, 3), v = from(0, widest);
            due("step(" + x + "," + sort + "," + v + ")", kernel.step(x, sort, v), model.step(x, sort, v));
            want = model.core();
        }
        due("core()", kernel.core(), want);
        for (int k = 0; k <= Math.max(0, want); k++) {
            due("reason(" + k + ")", kernel.reason(k), model.reason(k));
        }
        for (int x = 0; x < model.total(0); x++) {
            for (int v = 0; v <= widest; v++) {
                int whys = model.why(x, v);
                due("why(" + x + "," + v + ")", kernel.why(x, v), whys);
                for (int k = 0; k <= whys; k++) {
                    due("reason(" + k + ")", kernel.reason(k), model.reason(k));
                }
            }
        }
    }

    private static void proofs() {
        int x = x(), v = about(0, below(2) == 0 ? widest : 15), sort = about(0, 3), l = l(), k = about(0, 4);
        switch (below(6)) {
            case 0: {
                int r = below(2) == 0 ? NaiveModel.NONE : r();
                int number = model.line(r);
                due("line(" + r + ")", kernel.line(r), number);
                for (int i = below(4); i > 0 && number >= 0; i--) {
                    int y = x(), s = about(0, 3), w = from(0, widest);
                    due("says(" + number + "," + y + "," + s + "," + w + ")",
                            kernel.says(number, y, s, w), model.says(number, y, s, w));
                }
                break;
            }
            case 1: case 2:
                due("says(" + l + "," + x + "," + sort + "," + v + ")",
                        kernel.says(l, x, sort, v), model.says(l, x, sort, v));
                break;
            case 3:
                due("forge(" + l + "," + k + "," + sort + "," + v + ")",
                        kernel.forge(l, k, sort, v), model.forge(l, k, sort, v));
                break;
            default: {
                int want = model.check();
                due("check()", kernel.check(), want);
                due("refutes()", kernel.refutes(), model.refutes());
                // a wrong line is mended, so that later ones come to be looked at too
                for (int i = 0; want >= 0 && i < 6; i++) {
                    int s = below(2), w = s == 0 ? 15 : 0;
                    due("forge(" + want + "," + i + "," + s + "," + w + ")",
                            kernel.forge(want, i, s, w), model.forge(want, i, s, w));
                }
                break;
            }
        }
    }

    private static void run(int number) {
        seed = number * 7919L + 17;
        below(2);
        kernel = new NarrowingKernel();
        calls = 0;
        model = new NaiveModel();
        told = new StringBuilder("run " + number + ": ");
        widest = from(1, below(5) == 0 ? 15 : 4);
        int first = from(0, 40), last = from(20, 120), bias = below(4);
        for (int i = 0; i < first; i++) {
            tell();
        }
        for (int i = 0; i < last && wrong == 0 && calls < MOST_CALLS; i++) {
            int dice = below(12);
            if (dice == 0) {
                tell();
            } else if (dice <= 2) {
                look();
            } else if (dice <= 5 || bias == 0) {
                narrowing();
            } else if (dice <= 8 || bias == 1) {
                answers();
            } else {
                proofs();
            }
        }
    }

    public static void main(String[] args) {
        for (int number = 0; number < RUNS && wrong == 0; number++) {
            run(number);
        }
        if (args.length > 0) {
            System.out.println(met);
        }
        System.out.println(wrong == 0 ? "as the model" : wrong + " not as the model");
        if (wrong != 0) {
            System.exit(1);
        }
    }
}
