import java.util.ArrayList;
import java.util.Arrays;
import java.util.List;

/** The document, word by word and without any haste: what ModelTest measures the class against. */
final class NaiveModel {
    static final int UNKNOWN = -1, BAD = -2, STATE = -3, FULL = -4, FAR = -5, NONE = -9;
    static final int NULL = -11, PLACE = -12, CAST = -13, SIZE = -14;

    record Literal(int x, int sort, int v) {
        boolean isSo(int number) {
            return switch (sort) {
                case 0 -> number <= v;
                case 1 -> number >= v;
                case 2 -> number != v;
                default -> number == v;
            };
        }
    }

    record Part(int x, int a, int b) { }

    static final class Rule {
        int kind, a, b;
        boolean stands = true;
        final List<Part> parts = new ArrayList<>();
        final List<Literal> literals = new ArrayList<>();

        Rule(int kind, int a, int b) {
            this.kind = kind;
            this.a = a;
            this.b = b;
        }

        List<Integer> unknowns() {
            List<Integer> xs = new ArrayList<>();
            for (Part p : parts) {
                xs.add(p.x);
            }
            for (Literal q : literals) {
                if (!xs.contains(q.x)) {
                    xs.add(q.x);
                }
            }
            return xs;
        }
    }

    static final class Line {
        final int from;
        final Rule clause = new Rule(5, 0, 0);

        Line(int from) {
            this.from = from;
        }
    }

    record Step(Literal literal, List<boolean[]> before) { }

    private List<boolean[]> told = new ArrayList<>();
    private List<boolean[]> now = new ArrayList<>();
    private final List<Rule> rules = new ArrayList<>();
    private final List<Line> lines = new ArrayList<>();
    private final List<Step> steps = new ArrayList<>();
    private final long[][] tables = new long[6][];
    private List<Integer> reasons = new ArrayList<>();
    private int[] answer;
    private int findings;

    // ---- helpers

    private static List<boolean[]> copyOf(List<boolean[]> ranges) {
        List<boolean[]> made = new ArrayList<>();
        for (boolean[] r : ranges) {
            made.add(r.clone());
        }
        return made;
    }

    private static int size(boolean[] range) {
        int n = 0;
        for (boolean in : range) {
            n += in ? 1 : 0;
        }
        return n;
    }

    private static int least(boolean[] range) {
        for (int v = 0; v < 16; v++) {
            if (range[v]) {
                return v;
            }
        }
        throw new IllegalStateException("empty");
    }

    private static int greatest(boolean[] range) {
        for (int v = 15; v >= 0; v--) {
            if (range[v]) {
                return v;
            }
        }
        throw new IllegalStateException("empty");
    }

    private static int bits(boolean[] range) {
        int b = 0;
        for (int v = 0; v < 16; v++) {
            b |= range[v] ? 1 << v : 0;
        }
        return b;
    }

    private boolean isX(int x) {
        return x >= 0 && x < told.size();
    }

    private boolean isR(int r) {
        return r >= 0 && r < rules.size();
    }

    private static boolean isV(int v) {
        return v >= 0 && v <= 15;
    }

    private static boolean isT(int t) {
        return t >= 0 && t <= 5;
    }

    private static boolean isLiteral(int sort, int v) {
        return sort >= 0 && sort <= 3 && isV(v);
    }

    private int finding(int f) {
        findings++;
        return f;
    }

    private int did(int result) {
        now = copyOf(told);
        return result;
    }

    // ---- what is told

    int unknown(int least, int greatest) {
        if (!isV(least) || !isV(greatest) || least > greatest) {
            return BAD;
        }
        if (!steps.isEmpty()) {
            return STATE;
        }
        if (told.size() == 10) {
            return FULL;
        }
        boolean[] range = new boolean[16];
        Arrays.fill(range, least, greatest + 1, true);
        told.add(range);
        return did(told.size() - 1);
    }

    int hole(int x, int v) {
        if (!isX(x)) {
            return UNKNOWN;
        }
        if (!isV(v)) {
            return BAD;
        }
        if (!steps.isEmpty() || !told.get(x)[v] || size(told.get(x)) == 1) {
            return STATE;
        }
        told.get(x)[v] = false;
        return did(size(told.get(x)));
    }

    int rule(int kind, int a, int b) {
        if (kind < 0 || kind > 5) {
            return BAD;
        }
        if (kind == 0 && (a < 0 || a > 2 || b < -1000 || b > 1000)) {
            return BAD;
        }
        if (kind == 2 && !isT(a) || kind == 3 && (a < 0 || a > 100)) {
            return BAD;
        }
        if (!steps.isEmpty()) {
            return STATE;
        }
        if (rules.size() == 16) {
            return FULL;
        }
        rules.add(new Rule(kind, a, b));
        return did(rules.size() - 1);
    }

    int part(int r, int x, int a, int b) {
        if (!isR(r) || !isX(x)) {
            return UNKNOWN;
        }
        Rule rule = rules.get(r);
        if (rule.kind == 5) {
            return finding(CAST);
        }
        if (rule.kind == 0 && (a == 0 || Math.abs((long) a) > 9)) {
            return BAD;
        }
        if (rule.kind == 3 && (a < 0 || a > 15 || b < 0 || b > 20)) {
            return BAD;
        }
        if (!steps.isEmpty() || rule.unknowns().contains(x)) {
            return STATE;
        }
        if (rule.parts.size() == 6) {
            return FULL;
        }
        rule.parts.add(new Part(x, a, b));
        return did(rule.parts.size());
    }

    int literal(int r, int x, int sort, int v) {
        if (!isR(r) || !isX(x)) {
            return UNKNOWN;
        }
        Rule rule = rules.get(r);
        if (rule.kind != 5) {
            return finding(CAST);
        }
        if (!isLiteral(sort, v)) {
            return BAD;
        }
        if (!steps.isEmpty()) {
            return STATE;
        }
        if (rule.literals.size() == 6) {
            return FULL;
        }
        rule.literals.add(new Literal(x, sort, v));
        return did(rule.literals.size());
    }

    int stand(int r, boolean is) {
        if (!isR(r)) {
            return UNKNOWN;
        }
        if (!steps.isEmpty()) {
            return STATE;
        }
        int was = rules.get(r).stands ? 1 : 0;
        rules.get(r).stands = is;
        return did(was);
    }

    int table(int t, int lane, int n) {
        if (!isT(t) || lane < 0 || lane > 2 || n > 48) {
            return BAD;
        }
        if (!steps.isEmpty()) {
            return STATE;
        }
        if (n < 0) {
            return finding(SIZE);
        }
        tables[t] = new long[n];
        return did(n);
    }

    int tear(int t) {
        if (!isT(t)) {
            return BAD;
        }
        if (!steps.isEmpty()) {
            return STATE;
        }
        int was = tables[t] == null ? 1 : 0;
        tables[t] = null;
        return did(was);
    }

    int cell(int t, int i, int v) {
        if (!isT(t) || !isV(v)) {
            return BAD;
        }
        if (!steps.isEmpty()) {
            return STATE;
        }
        if (tables[t] == null) {
            return finding(NULL);
        }
        if (i < 0 || i >= tables[t].length) {
            return finding(PLACE);
        }
        tables[t][i] = v;
        return did(1);
    }

    int copy(int t, int i, int u, int j, int n) {
        if (!isT(t) || !isT(u) || n < 0) {
            return BAD;
        }
        if (!steps.isEmpty()) {
            return STATE;
        }
        if (tables[t] == null || tables[u] == null) {
            return finding(NULL);
        }
        if (i < 0 || j < 0 || (long) i + n > tables[t].length || (long) j + n > tables[u].length) {
            return finding(PLACE);
        }
        long[] ahead = tables[t].clone();
        for (int k = 0; k < n; k++) {
            tables[u][j + k] = ahead[i + k];
        }
        return did(n);
    }

    int get(int t, int i) {
        if (!isT(t)) {
            return BAD;
        }
        if (tables[t] == null) {
            return finding(NULL);
        }
        if (i < 0 || i >= tables[t].length) {
            return finding(PLACE);
        }
        return (int) tables[t][i];
    }

    int about(int r, int what) {
        if (!isR(r)) {
            return UNKNOWN;
        }
        if (what < 0 || what > 2) {
            return BAD;
        }
        Rule rule = rules.get(r);
        if (rule.kind != (what == 0 ? 0 : what == 1 ? 3 : 2)) {
            return finding(CAST);
        }
        return what == 0 ? rule.b : rule.a;
    }

    // ---- narrowing, as section 2 says it

    private boolean goes(Rule rule, int x, int v, List<boolean[]> ranges) {
        int i = rule.kind == 5 ? -1 : place(rule, x);
        return switch (rule.kind) {
            case 0 -> goesBySum(rule, i, v, ranges);
            case 1 -> !canBeUnlike(rule, i, v, 0, 0, ranges);
            case 2 -> goesByTable(rule, i, v, ranges);
            case 3 -> goesByLoad(rule, i, v, ranges);
            case 4 -> goesByRing(rule, i, v, ranges);
            default -> goesByClause(rule, x, v, ranges);
        };
    }

    private static int place(Rule rule, int x) {
        for (int i = 0; i < rule.parts.size(); i++) {
            if (rule.parts.get(i).x == x) {
                return i;
            }
        }
        throw new IllegalStateException("no part");
    }

    private static boolean goesBySum(Rule rule, int i, int v, List<boolean[]> ranges) {
        int least = rule.parts.get(i).a * v, greatest = least;
        boolean ones = true;
        for (int j = 0; j < rule.parts.size(); j++) {
            if (j == i) {
                continue;
            }
            Part p = rule.parts.get(j);
            int low = Integer.MAX_VALUE, high = Integer.MIN_VALUE;
            for (int w = 0; w < 16; w++) {
                if (ranges.get(p.x)[w]) {
                    low = Math.min(low, p.a * w);
                    high = Math.max(high, p.a * w);
                }
            }
            least += low;
            greatest += high;
            ones &= size(ranges.get(p.x)) == 1;
        }
        return switch (rule.a) {
            case 0 -> least > rule.b;
            case 1 -> least > rule.b || greatest < rule.b;
            default -> ones && least == rule.b;
        };
    }

    private static boolean canBeUnlike(Rule rule, int i, int v, int j, int used, List<boolean[]> ranges) {
        if (j == rule.parts.size()) {
            return true;
        }
        for (int w = 0; w < 16; w++) {
            boolean may = j == i ? w == v : ranges.get(rule.parts.get(j).x)[w];
            if (may && (used >> w & 1) == 0 && canBeUnlike(rule, i, v, j + 1, used | 1 << w, ranges)) {
                return true;
            }
        }
        return false;
    }

    private boolean goesByTable(Rule rule, int i, int v, List<boolean[]> ranges) {
        long[] cells = tables[rule.a];
        int n = rule.parts.size();
        for (int from = 0; cells != null && from + n <= cells.length; from += n) {
            boolean may = true;
            for (int j = 0; j < n; j++) {
                int w = (int) cells[from + j];
                may &= j == i ? w == v : ranges.get(rule.parts.get(j).x)[w];
            }
            if (may) {
                return false;
            }
        }
        return true;
    }

    private static boolean goesByLoad(Rule rule, int i, int v, List<boolean[]> ranges) {
        for (int time = v; time < v + rule.parts.get(i).a; time++) {
            int load = rule.parts.get(i).b;
            for (int j = 0; j < rule.parts.size(); j++) {
                Part p = rule.parts.get(j);
                boolean must = time >= greatest(ranges.get(p.x)) && time < least(ranges.get(p.x)) + p.a;
                load += j != i && must ? p.b : 0;
            }
            if (load > rule.a) {
                return true;
            }
        }
        return false;
    }

    private static boolean goesByRing(Rule rule, int i, int v, List<boolean[]> ranges) {
        int n = rule.parts.size();
        if (v > n - 1 || v == i && n > 1 || !canBeUnlike(rule, i, v, 0, 0, ranges)) {
            return true;
        }
        List<Integer> among = new ArrayList<>();
        int at = v;
        while (at != i) {
            boolean[] range = ranges.get(rule.parts.get(at).x);
            if (among.contains(at) || size(range) != 1 || least(range) > n - 1) {
                return false;
            }
            among.add(at);
            at = least(range);
        }
        return among.size() + 1 < n;
    }

    private static boolean goesByClause(Rule rule, int x, int v, List<boolean[]> ranges) {
        for (Literal q : rule.literals) {
            boolean isFalse = true;
            for (int w = 0; w < 16; w++) {
                isFalse &= !(ranges.get(q.x)[w] && q.isSo(w));
            }
            if (!isFalse && (q.x != x || q.isSo(v))) {
                return false;
            }
        }
        return true;
    }

    /** Null: DEAD. */
    private List<boolean[]> narrowed(List<boolean[]> start, List<Rule> by) {
        List<boolean[]> ranges = copyOf(start);
        for (boolean[] range : ranges) {
            if (size(range) == 0) {
                return null;
            }
        }
        for (Rule rule : by) {
            if (rule.unknowns().isEmpty() && !fits(rule, new int[10])) {
                return null;
            }
        }
        boolean some = true;
        while (some) {
            some = false;
            for (Rule rule : by) {
                for (int x : rule.unknowns()) {
                    for (int v = 15; v >= 0; v--) {
                        if (ranges.get(x)[v] && goes(rule, x, v, ranges)) {
                            ranges.get(x)[v] = false;
                            some = true;
                            if (size(ranges.get(x)) == 0) {
                                return null;
                            }
                        }
                    }
                }
            }
        }
        return ranges;
    }

    private List<Rule> standing() {
        List<Rule> by = new ArrayList<>();
        for (Rule rule : rules) {
            if (rule.stands) {
                by.add(rule);
            }
        }
        return by;
    }

    int narrow() {
        List<boolean[]> to = narrowed(now, standing());
        if (to == null) {
            return STATE;
        }
        int went = 0;
        for (int x = 0; x < now.size(); x++) {
            went += size(now.get(x)) - size(to.get(x));
        }
        now = to;
        return went;
    }

    int takes(int r) {
        if (!isR(r)) {
            return UNKNOWN;
        }
        int n = 0;
        for (int x : rules.get(r).unknowns()) {
            for (int v = 0; v < 16; v++) {
                n += now.get(x)[v] && goes(rules.get(r), x, v, now) ? 1 : 0;
            }
        }
        return n;
    }

    private static void cut(List<boolean[]> ranges, Literal by, boolean is) {
        for (int v = 0; v < 16; v++) {
            ranges.get(by.x)[v] &= by.isSo(v) == is;
        }
    }

    int step(int x, int sort, int v) {
        if (!isX(x)) {
            return UNKNOWN;
        }
        if (!isLiteral(sort, v)) {
            return BAD;
        }
        List<boolean[]> to = copyOf(now);
        cut(to, new Literal(x, sort, v), true);
        if (size(to.get(x)) == 0) {
            return STATE;
        }
        if (steps.size() == 12) {
            return FULL;
        }
        steps.add(new Step(new Literal(x, sort, v), now));
        now = to;
        return steps.size() - 1;
    }

    int undo(int d) {
        if (d < 0 || d > steps.size()) {
            return BAD;
        }
        int went = 0;
        while (steps.size() > d) {
            now = steps.remove(steps.size() - 1).before;
            went++;
        }
        return went;
    }

    int range(int x, int what) {
        if (!isX(x)) {
            return UNKNOWN;
        }
        return switch (what) {
            case 0 -> size(now.get(x));
            case 1 -> least(now.get(x));
            case 2 -> greatest(now.get(x));
            case 3 -> bits(now.get(x));
            case 4 -> bits(told.get(x));
            default -> BAD;
        };
    }

    private List<boolean[]> toldCutBy(List<Integer> kept) {
        List<boolean[]> ranges = copyOf(told);
        for (int d : kept) {
            cut(ranges, steps.get(d).literal, true);
        }
        return narrowed(ranges, standing());
    }

    private List<Integer> allSteps() {
        List<Integer> all = new ArrayList<>();
        for (int d = 0; d < steps.size(); d++) {
            all.add(d);
        }
        return all;
    }

    private boolean lacks(int x, int v, List<Integer> kept) {
        List<boolean[]> ranges = toldCutBy(kept);
        return ranges == null || !ranges.get(x)[v];
    }

    int why(int x, int v) {
        if (!isX(x)) {
            return UNKNOWN;
        }
        if (!isV(v)) {
            return BAD;
        }
        if (!told.get(x)[v] || !lacks(x, v, allSteps())) {
            return STATE;
        }
        List<Integer> kept = allSteps();
        for (int d = 0; d < steps.size(); d++) {
            List<Integer> without = new ArrayList<>(kept);
            without.remove((Integer) d);
            if (lacks(x, v, without)) {
                kept = without;
            }
        }
        reasons = kept;
        return kept.size();
    }

    int reason(int k) {
        return k >= 0 && k < reasons.size() ? reasons.get(k) : NONE;
    }

    // ---- answers

    private boolean fits(Rule rule, int[] n) {
        int parts = rule.parts.size();
        switch (rule.kind) {
            case 0: {
                int sum = 0;
                for (Part p : rule.parts) {
                    sum += p.a * n[p.x];
                }
                return rule.a == 0 ? sum <= rule.b : rule.a == 1 ? sum == rule.b : sum != rule.b;
            }
            case 1: {
                List<Integer> seen = new ArrayList<>();
                for (Part p : rule.parts) {
                    if (seen.contains(n[p.x])) {
                        return false;
                    }
                    seen.add(n[p.x]);
                }
                return true;
            }
            case 2: {
                long[] cells = tables[rule.a];
                if (cells == null || parts == 0) {
                    return false;
                }
                for (int row = 0; row < cells.length / parts; row++) {
                    boolean is = true;
                    for (int i = 0; i < parts; i++) {
                        is &= cells[row * parts + i] == n[rule.parts.get(i).x];
                    }
                    if (is) {
                        return true;
                    }
                }
                return false;
            }
            case 3: {
                for (int time = 0; time < 40; time++) {
                    int load = 0;
                    for (Part p : rule.parts) {
                        load += time >= n[p.x] && time < n[p.x] + p.a ? p.b : 0;
                    }
                    if (load > rule.a) {
                        return false;
                    }
                }
                return true;
            }
            case 4: {
                List<Integer> come = new ArrayList<>();
                int at = 0;
                while (parts > 0 && at < parts && !come.contains(at)) {
                    come.add(at);
                    at = n[rule.parts.get(at).x];
                }
                return come.size() == parts && at == 0;
            }
            default: {
                for (Literal q : rule.literals) {
                    if (q.isSo(n[q.x])) {
                        return true;
                    }
                }
                return false;
            }
        }
    }

    private void collect(List<boolean[]> ranges, int x, int[] n, List<int[]> found) {
        if (x == ranges.size()) {
            for (Rule rule : standing()) {
                if (!fits(rule, n)) {
                    return;
                }
            }
            found.add(n.clone());
            return;
        }
        for (int v = 0; v < 16; v++) {
            if (ranges.get(x)[v]) {
                n[x] = v;
                collect(ranges, x + 1, n, found);
            }
        }
    }

    private static long ways(List<boolean[]> ranges) {
        long ways = 1;
        for (boolean[] range : ranges) {
            ways *= size(range);
        }
        return ways;
    }

    /** Null: FAR. */
    private List<int[]> answers(List<boolean[]> narrowed) {
        List<int[]> found = new ArrayList<>();
        if (narrowed == null) {
            return found;
        }
        if (ways(narrowed) > 20000) {
            return null;
        }
        collect(narrowed, 0, new int[narrowed.size()], found);
        return found;
    }

    private List<int[]> answers() {
        return answers(narrowed(now, standing()));
    }

    int solve() {
        List<int[]> all = answers();
        if (all == null) {
            return FAR;
        }
        answer = all.isEmpty() ? null : all.get(0);
        return all.isEmpty() ? 0 : 1;
    }

    int next() {
        if (answer == null || answer.length != told.size()) {
            return STATE;
        }
        List<int[]> all = answers();
        if (all == null) {
            return FAR;
        }
        for (int[] one : all) {
            if (Arrays.compare(one, answer) > 0) {
                answer = one;
                return 1;
            }
        }
        return 0;
    }

    int answer(int x) {
        if (!isX(x)) {
            return UNKNOWN;
        }
        return answer == null || x >= answer.length ? STATE : answer[x];
    }

    int count(int most) {
        if (most < 1 || most > 20000) {
            return BAD;
        }
        List<int[]> all = answers();
        return all == null ? FAR : Math.min(most, all.size());
    }

    int best(int x, boolean greatest) {
        if (!isX(x)) {
            return UNKNOWN;
        }
        List<int[]> all = answers();
        if (all == null) {
            return FAR;
        }
        int[] found = null;
        for (int[] one : all) {
            if (found == null || (greatest ? one[x] > found[x] : one[x] < found[x])) {
                found = one;
            }
        }
        answer = found;
        return found == null ? NONE : found[x];
    }

    int has(int x, int sort, int v) {
        if (!isX(x)) {
            return UNKNOWN;
        }
        if (!isLiteral(sort, v)) {
            return BAD;
        }
        List<int[]> all = answers();
        if (all == null) {
            return FAR;
        }
        int so = 0;
        for (int[] one : all) {
            so += new Literal(x, sort, v).isSo(one[x]) ? 1 : 0;
        }
        return all.isEmpty() ? 3 : so == all.size() ? 1 : so == 0 ? 0 : 2;
    }

    int core() {
        List<boolean[]> free = toldCutBy(new ArrayList<>());
        if (free == null) {
            reasons = new ArrayList<>();
            return 0;
        }
        if (ways(free) > 20000) {
            return FAR;
        }
        List<Integer> kept = allSteps();
        if (!answers(toldCutBy(kept)).isEmpty()) {
            reasons = new ArrayList<>();
            return NONE;
        }
        for (int d = 0; d < steps.size(); d++) {
            List<Integer> without = new ArrayList<>(kept);
            without.remove((Integer) d);
            if (answers(toldCutBy(without)).isEmpty()) {
                kept = without;
            }
        }
        reasons = kept;
        return kept.size();
    }

    // ---- proofs

    int line(int r) {
        if (r != NONE && !isR(r)) {
            return UNKNOWN;
        }
        if (lines.size() == 40) {
            return FULL;
        }
        lines.add(new Line(r));
        return lines.size() - 1;
    }

    int says(int l, int x, int sort, int v) {
        if (l < 0 || l >= lines.size() || !isX(x)) {
            return UNKNOWN;
        }
        if (!isLiteral(sort, v)) {
            return BAD;
        }
        List<Literal> literals = lines.get(l).clause.literals;
        if (literals.size() == 6) {
            return FULL;
        }
        literals.add(new Literal(x, sort, v));
        return literals.size();
    }

    int forge(int l, int k, int sort, int v) {
        if (l < 0 || l >= lines.size() || k < 0 || k >= lines.get(l).clause.literals.size()) {
            return UNKNOWN;
        }
        if (!isLiteral(sort, v)) {
            return BAD;
        }
        List<Literal> literals = lines.get(l).clause.literals;
        literals.set(k, new Literal(literals.get(k).x, sort, v));
        return 1;
    }

    private boolean someFitsAndFalsifies(Rule rule, Rule clause, List<Integer> xs, int i, int[] n) {
        if (i == xs.size()) {
            return fits(rule, n) && !fits(clause, n);
        }
        for (int v = 0; v < 16; v++) {
            if (told.get(xs.get(i))[v]) {
                n[xs.get(i)] = v;
                if (someFitsAndFalsifies(rule, clause, xs, i + 1, n)) {
                    return true;
                }
            }
        }
        return false;
    }

    private int right(int l) {
        Line line = lines.get(l);
        if (line.from == NONE) {
            List<boolean[]> ranges = copyOf(told);
            for (Literal q : line.clause.literals) {
                cut(ranges, q, false);
            }
            List<Rule> ahead = new ArrayList<>();
            for (int k = 0; k < l; k++) {
                ahead.add(lines.get(k).clause);
            }
            return narrowed(ranges, ahead) == null ? 1 : 0;
        }
        Rule rule = rules.get(line.from);
        if (!rule.stands) {
            return 0;
        }
        List<Integer> xs = rule.unknowns();
        for (int x : line.clause.unknowns()) {
            if (!xs.contains(x)) {
                xs.add(x);
            }
        }
        long ways = 1;
        for (int x : xs) {
            ways *= size(told.get(x));
        }
        if (ways > 20000) {
            return FAR;
        }
        return someFitsAndFalsifies(rule, line.clause, xs, 0, new int[10]) ? 0 : 1;
    }

    int check() {
        for (int l = 0; l < lines.size(); l++) {
            int right = right(l);
            if (right != 1) {
                return right == FAR ? FAR : l;
            }
        }
        return NONE;
    }

    int refutes() {
        int first = check();
        if (first == FAR) {
            return FAR;
        }
        for (Line line : lines) {
            if (first == NONE && line.clause.literals.isEmpty()) {
                return 1;
            }
        }
        return 0;
    }

    int total(int what) {
        int laid = 0;
        for (long[] cells : tables) {
            laid += cells == null ? 0 : 1;
        }
        return switch (what) {
            case 0 -> told.size();
            case 1 -> rules.size();
            case 2 -> steps.size();
            case 3 -> lines.size();
            case 4 -> findings;
            case 5 -> laid;
            default -> BAD;
        };
    }
}
