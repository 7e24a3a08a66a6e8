/**
 * Narrows unknown numbers by rules of six kinds, says by which steps each number went, seeks and
 * counts answers, and checks proofs. A RANGE is held as bits: bit v is set, if NUMBER v is in it.
 * Every row is made once, with the object: no call makes a new one.
 */
public final class NarrowingKernel {
    public static final int UNKNOWN = -1, BAD = -2, STATE = -3, FULL = -4, FAR = -5, NONE = -9;
    public static final int NULL = -11, PLACE = -12, CAST = -13, SIZE = -14;

    private static final int UNKNOWNS = 10, RULES = 16, PARTS = 6, STEPS = 12, LINES = 40;
    private static final int NUMBERS = 16, ALL_NUMBERS = 0xFFFF;
    private static final int TABLES = 6, CELLS = 48, LANES = 3, MISSING = -1;
    private static final int MOST_WAYS = 20000, NO_ANSWER = -1;

    private final int[] told = new int[UNKNOWNS];
    private final int[] now = new int[UNKNOWNS];
    private int unknowns;
    private final Rule[] rules = new Rule[RULES];
    private int ruleCount;
    private long standing;
    private final Tables tables;
    private final Steps steps = new Steps();
    private final int[] reasons = new int[STEPS];
    private int reasonCount;
    private final int[] theAnswer = new int[UNKNOWNS];
    private int answered = NO_ANSWER;
    private final Rule[] lines = new Rule[LINES];
    private final int[] from = new int[LINES];
    private int lineCount;
    private int findings;
    private final Narrower narrower;
    private final Search search;
    private final int[] work = new int[UNKNOWNS];
    private final int[] cut = new int[UNKNOWNS];

    public NarrowingKernel() {
        for (int r = 0; r < RULES; r++) {
            rules[r] = new Rule();
        }
        for (int l = 0; l < LINES; l++) {
            lines[l] = new Rule();
        }
        Tables rows = new Tables();
        Fitter fitter = new Fitter(rows);
        tables = rows;
        narrower = new Narrower(new Looker(rows), fitter);
        search = new Search(fitter);
    }

    // ---- what is told

    public int unknown(int least, int greatest) {
        if (least < 0 || greatest >= NUMBERS || least > greatest) {
            return BAD;
        }
        if (steps.size > 0) {
            return STATE;
        }
        if (unknowns >= UNKNOWNS) {
            return FULL;
        }
        told[unknowns] = (2 << greatest) - (1 << least);
        unknowns++;
        letRangesBeAsTold();
        return unknowns - 1;
    }

    public int hole(int x, int v) {
        if (!isUnknown(x)) {
            return UNKNOWN;
        }
        if (!isNumber(v)) {
            return BAD;
        }
        int bit = 1 << v;
        if (steps.size > 0 || (told[x] & bit) == 0 || told[x] == bit) {
            return STATE;
        }
        told[x] &= ~bit;
        letRangesBeAsTold();
        return Integer.bitCount(told[x]);
    }

    public int rule(int kind, int a, int b) {
        if (kind < Rule.SUM || kind > Rule.CLAUSE || !mayBeSet(kind, a, b)) {
            return BAD;
        }
        if (steps.size > 0) {
            return STATE;
        }
        if (ruleCount >= RULES) {
            return FULL;
        }
        rules[ruleCount].begin(kind, a, b);
        standing |= 1L << ruleCount;
        ruleCount++;
        letRangesBeAsTold();
        return ruleCount - 1;
    }

    private static boolean mayBeSet(int kind, int a, int b) {
        switch (kind) {
            case Rule.SUM:
                return a >= Rule.AT_MOST && a <= Rule.NOT && b >= -1000 && b <= 1000;
            case Rule.TABLE:
                return a >= 0 && a < TABLES;
            case Rule.LOAD:
                return a >= 0 && a <= 100;
            default:
                return true;
        }
    }

    public int part(int r, int x, int a, int b) {
        if (!isRule(r) || !isUnknown(x)) {
            return UNKNOWN;
        }
        Rule rule = rules[r];
        if (rule.kind == Rule.CLAUSE) {
            return found(CAST);
        }
        if (!mayBePart(rule.kind, a, b)) {
            return BAD;
        }
        if (steps.size > 0 || rule.isOf(x)) {
            return STATE;
        }
        if (rule.parts >= PARTS) {
            return FULL;
        }
        rule.join(x, a, b);
        letRangesBeAsTold();
        return rule.parts;
    }

    private static boolean mayBePart(int kind, int a, int b) {
        switch (kind) {
            case Rule.SUM:
                return a >= -9 && a <= 9 && a != 0;
            case Rule.LOAD:
                return a >= 0 && a <= Rule.LONGEST && b >= 0 && b <= 20;
            default:
                return true;
        }
    }

    public int literal(int r, int x, int sort, int v) {
        if (!isRule(r) || !isUnknown(x)) {
            return UNKNOWN;
        }
        Rule rule = rules[r];
        if (rule.kind != Rule.CLAUSE) {
            return found(CAST);
        }
        if (!isLiteral(sort, v)) {
            return BAD;
        }
        if (steps.size > 0) {
            return STATE;
        }
        if (rule.parts >= PARTS) {
            return FULL;
        }
        rule.join(x, numbersSo(sort, v), 0);
        letRangesBeAsTold();
        return rule.parts;
    }

    public int stand(int r, boolean is) {
        if (!isRule(r)) {
            return UNKNOWN;
        }
        if (steps.size > 0) {
            return STATE;
        }
        int stood = stands(r) ? 1 : 0;
        if (is) {
            standing |= 1L << r;
        } else {
            standing &= ~(1L << r);
        }
        letRangesBeAsTold();
        return stood;
    }

    /** The lane is not kept: a cell is 0 .. 15, so that no answer depends on it. */
    public int table(int t, int lane, int n) {
        if (!isTable(t) || lane < 0 || lane >= LANES || n > CELLS) {
            return BAD;
        }
        if (steps.size > 0) {
            return STATE;
        }
        if (n < 0) {
            return found(SIZE);
        }
        tables.lay(t, n);
        letRangesBeAsTold();
        return n;
    }

    public int tear(int t) {
        if (!isTable(t)) {
            return BAD;
        }
        if (steps.size > 0) {
            return STATE;
        }
        int was = tables.isMissing(t) ? 1 : 0;
        tables.size[t] = MISSING;
        letRangesBeAsTold();
        return was;
    }

    public int cell(int t, int i, int v) {
        if (!isTable(t) || !isNumber(v)) {
            return BAD;
        }
        if (steps.size > 0) {
            return STATE;
        }
        if (tables.isMissing(t)) {
            return found(NULL);
        }
        if (!tables.hasCells(t, i, 1)) {
            return found(PLACE);
        }
        tables.cells[t][i] = v;
        letRangesBeAsTold();
        return 1;
    }

    public int copy(int t, int i, int u, int j, int n) {
        if (!isTable(t) || !isTable(u) || n < 0) {
            return BAD;
        }
        if (steps.size > 0) {
            return STATE;
        }
        if (tables.isMissing(t) || tables.isMissing(u)) {
            return found(NULL);
        }
        if (!tables.hasCells(t, i, n) || !tables.hasCells(u, j, n)) {
            return found(PLACE);
        }
        System.arraycopy(tables.cells[t], i, tables.cells[u], j, n);
        letRangesBeAsTold();
        return n;
    }

    public int get(int t, int i) {
        if (!isTable(t)) {
            return BAD;
        }
        if (tables.isMissing(t)) {
            return found(NULL);
        }
        if (!tables.hasCells(t, i, 1)) {
            return found(PLACE);
        }
        return tables.cells[t][i];
    }

    public int about(int r, int what) {
        if (!isRule(r)) {
            return UNKNOWN;
        }
        Rule rule = rules[r];
        switch (what) {
            case 0:
                return rule.kind == Rule.SUM ? rule.bound : found(CAST);
            case 1:
                return rule.kind == Rule.LOAD ? rule.setting : found(CAST);
            case 2:
                return rule.kind == Rule.TABLE ? rule.setting : found(CAST);
            default:
                return BAD;
        }
    }

    // ---- narrowing

    public int narrow() {
        bring(now, work);
        if (!narrower.run(work, rules, standing)) {
            return STATE;
        }
        int gone = 0;
        for (int x = 0; x < unknowns; x++) {
            gone += Integer.bitCount(now[x] & ~work[x]);
        }
        bring(work, now);
        return gone;
    }

    public int takes(int r) {
        if (!isRule(r)) {
            return UNKNOWN;
        }
        return narrower.countTaken(rules[r], now);
    }

    public int step(int x, int sort, int v) {
        if (!isUnknown(x)) {
            return UNKNOWN;
        }
        if (!isLiteral(sort, v)) {
            return BAD;
        }
        int so = numbersSo(sort, v);
        if ((now[x] & so) == 0) {
            return STATE;
        }
        if (steps.size >= STEPS) {
            return FULL;
        }
        bring(now, steps.before[steps.size]);
        steps.of[steps.size] = x;
        steps.so[steps.size] = so;
        steps.size++;
        now[x] &= so;
        return steps.size - 1;
    }

    public int undo(int d) {
        if (d < 0 || d > steps.size) {
            return BAD;
        }
        int gone = steps.size - d;
        if (gone > 0) {
            bring(steps.before[d], now);
            steps.size = d;
        }
        return gone;
    }

    public int range(int x, int what) {
        if (!isUnknown(x)) {
            return UNKNOWN;
        }
        switch (what) {
            case 0:
                return Integer.bitCount(now[x]);
            case 1:
                return least(now[x]);
            case 2:
                return greatest(now[x]);
            case 3:
                return now[x];
            case 4:
                return told[x];
            default:
                return BAD;
        }
    }

    public int why(int x, int v) {
        if (!isUnknown(x)) {
            return UNKNOWN;
        }
        if (!isNumber(v)) {
            return BAD;
        }
        int kept = steps.all();
        if ((told[x] >> v & 1) == 0 || !isLacked(x, v, kept)) {
            return STATE;
        }
        for (int d = 0; d < steps.size; d++) {
            int fewer = kept & ~(1 << d);
            if (isLacked(x, v, fewer)) {
                kept = fewer;
            }
        }
        return keepReasons(kept);
    }

    private boolean isLacked(int x, int v, int kept) {
        return !narrowToldBySteps(kept) || (work[x] >> v & 1) == 0;
    }

    /** The work row gets the RANGES TOLD, cut by the STEPS kept, NARROWED. False: they are DEAD. */
    private boolean narrowToldBySteps(int kept) {
        bring(told, work);
        for (int d = 0; d < steps.size; d++) {
            if ((kept >> d & 1) != 0) {
                work[steps.of[d]] &= steps.so[d];
            }
        }
        return noneIsEmpty(work) && narrower.run(work, rules, standing);
    }

    private int keepReasons(int kept) {
        reasonCount = 0;
        for (int d = 0; d < steps.size; d++) {
            if ((kept >> d & 1) != 0) {
                reasons[reasonCount] = d;
                reasonCount++;
            }
        }
        return reasonCount;
    }

    public int reason(int k) {
        return k >= 0 && k < reasonCount ? reasons[k] : NONE;
    }

    // ---- answers

    public int solve() {
        int ways = narrowAside();
        if (ways > MOST_WAYS) {
            return FAR;
        }
        if (ways == 0 || !findsAnswer(work)) {
            answered = NO_ANSWER;
            return 0;
        }
        keepAnswer();
        return 1;
    }

    public int next() {
        if (answered != unknowns) {
            return STATE;
        }
        int ways = narrowAside();
        if (ways > MOST_WAYS) {
            return FAR;
        }
        if (ways == 0) {
            return 0;
        }
        for (int x = unknowns - 1; x >= 0; x--) {
            if (findsAnswerAbove(x)) {
                keepAnswer();
                return 1;
            }
        }
        return 0;
    }

    /** Seeks the least ANSWER that is as THE ANSWER ahead of UNKNOWN x, and above it there. */
    private boolean findsAnswerAbove(int x) {
        bring(work, cut);
        for (int y = 0; y < x; y++) {
            cut[y] &= 1 << theAnswer[y];
        }
        cut[x] &= -(2 << theAnswer[x]);
        return findsAnswer(cut);
    }

    public int answer(int x) {
        if (!isUnknown(x)) {
            return UNKNOWN;
        }
        return x < answered ? theAnswer[x] : STATE;
    }

    public int count(int most) {
        if (most < 1 || most > MOST_WAYS) {
            return BAD;
        }
        int ways = narrowAside();
        if (ways > MOST_WAYS) {
            return FAR;
        }
        return ways == 0 ? 0 : search.find(work, unknowns, rules, standing, most);
    }

    public int best(int x, boolean greatest) {
        if (!isUnknown(x)) {
            return UNKNOWN;
        }
        int ways = narrowAside();
        if (ways > MOST_WAYS) {
            return FAR;
        }
        for (int i = 0; ways > 0 && i < NUMBERS; i++) {
            int v = greatest ? NUMBERS - 1 - i : i;
            if (findsAnswerWith(x, 1 << v)) {
                keepAnswer();
                return v;
            }
        }
        answered = NO_ANSWER;
        return NONE;
    }

    public int has(int x, int sort, int v) {
        if (!isUnknown(x)) {
            return UNKNOWN;
        }
        if (!isLiteral(sort, v)) {
            return BAD;
        }
        int ways = narrowAside();
        if (ways > MOST_WAYS) {
            return FAR;
        }
        int so = numbersSo(sort, v);
        boolean isSo = ways > 0 && findsAnswerWith(x, so);
        boolean isNotSo = ways > 0 && findsAnswerWith(x, ~so);
        if (isSo) {
            return isNotSo ? 2 : 1;
        }
        return isNotSo ? 0 : 3;
    }

    public int core() {
        if (!narrowToldBySteps(0)) {
            return keepReasons(0);
        }
        if (countWays(work, ~0) > MOST_WAYS) {
            return FAR;
        }
        int kept = steps.all();
        if (hasAnswerBySteps(kept)) {
            keepReasons(0);
            return NONE;
        }
        for (int d = 0; d < steps.size; d++) {
            int fewer = kept & ~(1 << d);
            if (!hasAnswerBySteps(fewer)) {
                kept = fewer;
            }
        }
        return keepReasons(kept);
    }

    private boolean hasAnswerBySteps(int kept) {
        return narrowToldBySteps(kept) && findsAnswer(work);
    }

    /** The work row gets the RANGES as they are, NARROWED: in how many ways to choose; 0: DEAD. */
    private int narrowAside() {
        bring(now, work);
        return narrower.run(work, rules, standing) ? countWays(work, ~0) : 0;
    }

    /** More than MOST_WAYS stands for any number above it. */
    private int countWays(int[] ranges, int members) {
        int ways = 1;
        for (int x = 0; x < unknowns && ways <= MOST_WAYS; x++) {
            if ((members >> x & 1) != 0) {
                ways *= Integer.bitCount(ranges[x]);
            }
        }
        return ways;
    }

    private boolean findsAnswerWith(int x, int numbers) {
        bring(work, cut);
        cut[x] &= numbers;
        return findsAnswer(cut);
    }

    private boolean findsAnswer(int[] ranges) {
        return noneIsEmpty(ranges) && search.find(ranges, unknowns, rules, standing, 1) > 0;
    }

    private void keepAnswer() {
        bring(search.number, theAnswer);
        answered = unknowns;
    }

    // ---- proofs

    public int line(int r) {
        if (r != NONE && !isRule(r)) {
            return UNKNOWN;
        }
        if (lineCount >= LINES) {
            return FULL;
        }
        lines[lineCount].begin(Rule.CLAUSE, 0, 0);
        from[lineCount] = r;
        lineCount++;
        return lineCount - 1;
    }

    public int says(int l, int x, int sort, int v) {
        if (!isLine(l) || !isUnknown(x)) {
            return UNKNOWN;
        }
        if (!isLiteral(sort, v)) {
            return BAD;
        }
        if (lines[l].parts >= PARTS) {
            return FULL;
        }
        lines[l].join(x, numbersSo(sort, v), 0);
        return lines[l].parts;
    }

    public int forge(int l, int k, int sort, int v) {
        if (!isLine(l) || k < 0 || k >= lines[l].parts) {
            return UNKNOWN;
        }
        if (!isLiteral(sort, v)) {
            return BAD;
        }
        lines[l].a[k] = numbersSo(sort, v);
        return 1;
    }

    public int check() {
        for (int l = 0; l < lineCount; l++) {
            int right = from[l] == NONE ? isRightByLines(l) : isRightByRule(l, from[l]);
            if (right == FAR) {
                return FAR;
            }
            if (right == 0) {
                return l;
            }
        }
        return NONE;
    }

    public int refutes() {
        int wrong = check();
        if (wrong == FAR) {
            return FAR;
        }
        boolean empty = false;
        for (int l = 0; l < lineCount; l++) {
            empty |= lines[l].parts == 0;
        }
        return wrong == NONE && empty ? 1 : 0;
    }

    private int isRightByRule(int l, int r) {
        Rule line = lines[l];
        Rule rule = rules[r];
        if (!stands(r)) {
            return 0;
        }
        if (countWays(told, rule.members | line.members) > MOST_WAYS) {
            return FAR;
        }
        if (!cutToldByFalse(line) || !narrower.run(work, rules, 1L << r)) {
            return 1;
        }
        for (int x = 0; x < unknowns; x++) {
            if (!rule.isOf(x)) {
                // the RULE does not look at it: one NUMBER is as good as another
                work[x] &= -work[x];
            }
        }
        return search.find(work, unknowns, rules, 1L << r, 1) > 0 ? 0 : 1;
    }

    private int isRightByLines(int l) {
        return cutToldByFalse(lines[l]) && narrower.run(work, lines, (1L << l) - 1) ? 0 : 1;
    }

    /** The work row gets the RANGES TOLD without what makes a LITERAL so. False: one is empty. */
    private boolean cutToldByFalse(Rule line) {
        bring(told, work);
        for (int k = 0; k < line.parts; k++) {
            work[line.of[k]] &= ~line.a[k];
        }
        return noneIsEmpty(work);
    }

    public int total(int what) {
        switch (what) {
            case 0:
                return unknowns;
            case 1:
                return ruleCount;
            case 2:
                return steps.size;
            case 3:
                return lineCount;
            case 4:
                return findings;
            case 5:
                return tables.countLaid();
            default:
                return BAD;
        }
    }

    // ---- what the calls share

    private boolean isUnknown(int x) {
        return x >= 0 && x < unknowns;
    }

    private boolean isRule(int r) {
        return r >= 0 && r < ruleCount;
    }

    private boolean isLine(int l) {
        return l >= 0 && l < lineCount;
    }

    private boolean stands(int r) {
        return (standing >> r & 1) != 0;
    }

    private static boolean isTable(int t) {
        return t >= 0 && t < TABLES;
    }

    private static boolean isNumber(int v) {
        return v >= 0 && v < NUMBERS;
    }

    private static boolean isLiteral(int sort, int v) {
        return sort >= 0 && sort <= 3 && isNumber(v);
    }

    /** The bits of the NUMBERS that make a LITERAL so. */
    private static int numbersSo(int sort, int v) {
        switch (sort) {
            case 0:
                return (2 << v) - 1;
            case 1:
                return ALL_NUMBERS & -(1 << v);
            case 2:
                return ALL_NUMBERS & ~(1 << v);
            default:
                return 1 << v;
        }
    }

    private int found(int finding) {
        findings++;
        return finding;
    }

    private void letRangesBeAsTold() {
        bring(told, now);
    }

    private static void bring(int[] source, int[] target) {
        System.arraycopy(source, 0, target, 0, UNKNOWNS);
    }

    private boolean noneIsEmpty(int[] ranges) {
        for (int x = 0; x < unknowns; x++) {
            if (ranges[x] == 0) {
                return false;
            }
        }
        return true;
    }

    private static int least(int range) {
        return Integer.numberOfTrailingZeros(range);
    }

    private static int greatest(int range) {
        return 31 - Integer.numberOfLeadingZeros(range);
    }

    private static boolean isOne(int range) {
        return (range & (range - 1)) == 0;
    }

    /** A RULE, or a LINE of the proof, which is a CLAUSE; the LITERALS of a CLAUSE are its PARTS. */
    private static final class Rule {
        static final int SUM = 0, UNLIKE = 1, TABLE = 2, LOAD = 3, RING = 4, CLAUSE = 5;
        static final int AT_MOST = 0, EXACTLY = 1, NOT = 2;
        static final int LONGEST = 15;

        int kind;
        int setting; // SUM: how; TABLE: its TABLE; LOAD: most
        int bound;
        int parts;
        int members; // a bit for each UNKNOWN that a PART is of
        final int[] of = new int[PARTS];
        final int[] a = new int[PARTS]; // SUM: multiple; LOAD: length; CLAUSE: bits that make it so
        final int[] b = new int[PARTS]; // LOAD: need

        void begin(int newKind, int newSetting, int newBound) {
            kind = newKind;
            setting = newSetting;
            bound = newBound;
        }

        void join(int x, int newA, int newB) {
            of[parts] = x;
            a[parts] = newA;
            b[parts] = newB;
            parts++;
            members |= 1 << x;
        }

        boolean isOf(int x) {
            return (members >> x & 1) != 0;
        }
    }

    private static final class Steps {
        int size;
        final int[] of = new int[STEPS];
        final int[] so = new int[STEPS];
        final int[][] before = new int[STEPS][UNKNOWNS];

        int all() {
            return (1 << size) - 1;
        }
    }

    private static final class Tables {
        final int[] size = new int[TABLES];
        final int[][] cells = new int[TABLES][CELLS];

        Tables() {
            for (int t = 0; t < TABLES; t++) {
                size[t] = MISSING;
            }
        }

        void lay(int t, int n) {
            size[t] = n;
            for (int i = 0; i < CELLS; i++) {
                cells[t][i] = 0;
            }
        }

        boolean isMissing(int t) {
            return size[t] == MISSING;
        }

        /** Written with a difference, as i and n together may go round the ints. */
        boolean hasCells(int t, int i, int n) {
            return i >= 0 && i <= size[t] && n <= size[t] - i;
        }

        int countLaid() {
            int laid = 0;
            for (int t = 0; t < TABLES; t++) {
                if (!isMissing(t)) {
                    laid++;
                }
            }
            return laid;
        }

        /** How many whole ROWS there are for a RULE of so many PARTS; of a MISSING TABLE none. */
        int countRows(int t, int parts) {
            return size[t] < parts || parts == 0 ? 0 : size[t] / parts;
        }
    }

    /** Says whether NUMBERS, one for each UNKNOWN, FIT a RULE. */
    private static final class Fitter {
        private final Tables tables;

        Fitter(Tables tables) {
            this.tables = tables;
        }

        boolean fits(Rule rule, int[] number) {
            switch (rule.kind) {
                case Rule.SUM:
                    return fitsSum(rule, number);
                case Rule.UNLIKE:
                    return fitsUnlike(rule, number);
                case Rule.TABLE:
                    return fitsTable(rule, number);
                case Rule.LOAD:
                    return fitsLoad(rule, number);
                case Rule.RING:
                    return fitsRing(rule, number);
                default:
                    return fitsClause(rule, number);
            }
        }

        private static boolean fitsSum(Rule rule, int[] number) {
            int sum = 0;
            for (int i = 0; i < rule.parts; i++) {
                sum += rule.a[i] * number[rule.of[i]];
            }
            switch (rule.setting) {
                case Rule.AT_MOST:
                    return sum <= rule.bound;
                case Rule.EXACTLY:
                    return sum == rule.bound;
                default:
                    return sum != rule.bound;
            }
        }

        private static boolean fitsUnlike(Rule rule, int[] number) {
            int seen = 0;
            for (int i = 0; i < rule.parts; i++) {
                int bit = 1 << number[rule.of[i]];
                if ((seen & bit) != 0) {
                    return false;
                }
                seen |= bit;
            }
            return true;
        }

        private boolean fitsTable(Rule rule, int[] number) {
            int[] cells = tables.cells[rule.setting];
            int rows = tables.countRows(rule.setting, rule.parts);
            for (int row = 0; row < rows; row++) {
                int i = 0;
                while (i < rule.parts && cells[row * rule.parts + i] == number[rule.of[i]]) {
                    i++;
                }
                if (i == rule.parts) {
                    return true;
                }
            }
            return false;
        }

        /** The load grows only when a job begins, so that it is looked at only then. */
        private static boolean fitsLoad(Rule rule, int[] number) {
            for (int i = 0; i < rule.parts; i++) {
                int time = number[rule.of[i]];
                int load = 0;
                for (int j = 0; j < rule.parts; j++) {
                    int begin = number[rule.of[j]];
                    if (begin <= time && time < begin + rule.a[j]) {
                        load += rule.b[j];
                    }
                }
                if (load > rule.setting) {
                    return false;
                }
            }
            return true;
        }

        private static boolean fitsRing(Rule rule, int[] number) {
            int place = 0;
            for (int gone = 1; gone <= rule.parts; gone++) {
                place = number[rule.of[place]];
                if (place >= rule.parts) {
                    return false;
                }
                if (place == 0) {
                    return gone == rule.parts;
                }
            }
            return rule.parts == 0;
        }

        private static boolean fitsClause(Rule rule, int[] number) {
            for (int i = 0; i < rule.parts; i++) {
                if ((rule.a[i] >> number[rule.of[i]] & 1) != 0) {
                    return true;
                }
            }
            return false;
        }
    }

    /** Says which NUMBERS a RULE takes away, looked at once; no RANGE that it gets is empty. */
    private static final class Looker {
        private static final int TIMES = NUMBERS + Rule.LONGEST;

        private final Tables tables;
        final int[] gone = new int[UNKNOWNS]; // of the PARTS of the RULE looked at last
        private final int[] joined = new int[1 << PARTS];
        private final int[] must = new int[TIMES];
        private final int[] so = new int[UNKNOWNS];

        Looker(Tables tables) {
            this.tables = tables;
        }

        void look(Rule rule, int[] ranges) {
            switch (rule.kind) {
                case Rule.SUM:
                    lookAtSum(rule, ranges);
                    break;
                case Rule.UNLIKE:
                    lookAtUnlike(rule, ranges);
                    break;
                case Rule.TABLE:
                    lookAtTable(rule, ranges);
                    break;
                case Rule.LOAD:
                    lookAtLoad(rule, ranges);
                    break;
                case Rule.RING:
                    lookAtRing(rule, ranges);
                    break;
                default:
                    lookAtClause(rule, ranges);
                    break;
            }
        }

        private void lookAtSum(Rule rule, int[] ranges) {
            int low = 0;
            int high = 0;
            int open = 0;
            for (int i = 0; i < rule.parts; i++) {
                int range = ranges[rule.of[i]];
                low += lowest(rule.a[i], range);
                high += highest(rule.a[i], range);
                open += isOne(range) ? 0 : 1;
            }
            for (int i = 0; i < rule.parts; i++) {
                int range = ranges[rule.of[i]];
                int othersLow = low - lowest(rule.a[i], range);
                int othersHigh = high - highest(rule.a[i], range);
                boolean othersAreOne = open == (isOne(range) ? 0 : 1);
                int taken = 0;
                for (int v = 0; v < NUMBERS; v++) {
                    int product = rule.a[i] * v;
                    if ((range >> v & 1) != 0
                            && sumTakes(rule, product + othersLow, product + othersHigh, othersAreOne)) {
                        taken |= 1 << v;
                    }
                }
                gone[rule.of[i]] = taken;
            }
        }

        private static int lowest(int multiple, int range) {
            return multiple * (multiple > 0 ? Integer.numberOfTrailingZeros(range)
                    : 31 - Integer.numberOfLeadingZeros(range));
        }

        private static int highest(int multiple, int range) {
            return multiple * (multiple > 0 ? 31 - Integer.numberOfLeadingZeros(range)
                    : Integer.numberOfTrailingZeros(range));
        }

        private static boolean sumTakes(Rule rule, int low, int high, boolean othersAreOne) {
            switch (rule.setting) {
                case Rule.AT_MOST:
                    return low > rule.bound;
                case Rule.EXACTLY:
                    return low > rule.bound || high < rule.bound;
                default:
                    return othersAreOne && low == rule.bound;
            }
        }

        /**
         * By Hall: PARTS can be all unlike, if no set of them has fewer NUMBERS than PARTS; and then
         * a NUMBER goes just if it is of a set, not of its own PART, that has as many as PARTS.
         */
        private void lookAtUnlike(Rule rule, int[] ranges) {
            for (int i = 0; i < rule.parts; i++) {
                gone[rule.of[i]] = 0;
            }
            for (int set = 1; set < 1 << rule.parts; set++) {
                int rest = set & (set - 1);
                joined[set] = joined[rest] | ranges[rule.of[Integer.numberOfTrailingZeros(set)]];
                int spare = Integer.bitCount(joined[set]) - Integer.bitCount(set);
                if (spare < 0) {
                    takeAll(rule, ranges);
                    return;
                }
                if (spare == 0) {
                    takeFromOthers(rule, ranges, set);
                }
            }
        }

        private void takeAll(Rule rule, int[] ranges) {
            for (int i = 0; i < rule.parts; i++) {
                gone[rule.of[i]] = ranges[rule.of[i]];
            }
        }

        private void takeFromOthers(Rule rule, int[] ranges, int set) {
            for (int i = 0; i < rule.parts; i++) {
                if ((set >> i & 1) == 0) {
                    gone[rule.of[i]] |= ranges[rule.of[i]] & joined[set];
                }
            }
        }

        private void lookAtTable(Rule rule, int[] ranges) {
            takeAll(rule, ranges);
            int[] cells = tables.cells[rule.setting];
            int rows = tables.countRows(rule.setting, rule.parts);
            for (int row = 0; row < rows; row++) {
                int start = row * rule.parts;
                int i = 0;
                while (i < rule.parts && (ranges[rule.of[i]] >> cells[start + i] & 1) != 0) {
                    i++;
                }
                if (i == rule.parts) {
                    giveBack(rule, cells, start);
                }
            }
        }

        private void giveBack(Rule rule, int[] cells, int start) {
            for (int i = 0; i < rule.parts; i++) {
                gone[rule.of[i]] &= ~(1 << cells[start + i]);
            }
        }

        private void lookAtLoad(Rule rule, int[] ranges) {
            for (int time = 0; time < TIMES; time++) {
                must[time] = 0;
            }
            for (int i = 0; i < rule.parts; i++) {
                int range = ranges[rule.of[i]];
                int end = Math.min(least(range) + rule.a[i], TIMES);
                for (int time = Math.max(greatest(range), 0); time < end; time++) {
                    must[time] += rule.b[i];
                }
            }
            for (int i = 0; i < rule.parts; i++) {
                int range = ranges[rule.of[i]];
                int mustBegin = greatest(range);
                int mustEnd = least(range) + rule.a[i];
                int taken = 0;
                for (int v = 0; v < NUMBERS; v++) {
                    if ((range >> v & 1) != 0 && loadTakes(rule, i, v, mustBegin, mustEnd)) {
                        taken |= 1 << v;
                    }
                }
                gone[rule.of[i]] = taken;
            }
        }

        private boolean loadTakes(Rule rule, int i, int v, int mustBegin, int mustEnd) {
            int end = Math.min(v + rule.a[i], TIMES);
            for (int time = v; time < end; time++) {
                boolean isCounted = mustBegin <= time && time < mustEnd;
                if (must[time] + (isCounted ? 0 : rule.b[i]) > rule.setting) {
                    return true;
                }
            }
            return false;
        }

        private void lookAtRing(Rule rule, int[] ranges) {
            lookAtUnlike(rule, ranges);
            for (int i = 0; i < rule.parts; i++) {
                int range = ranges[rule.of[i]];
                int taken = range & -(1 << rule.parts);
                for (int v = 0; v < rule.parts; v++) {
                    if ((range >> v & 1) != 0 && closesTooSoon(rule, ranges, i, v)) {
                        taken |= 1 << v;
                    }
                }
                gone[rule.of[i]] |= taken;
            }
        }

        /** Whether from PART v, by PARTS of one NUMBER, PART i is come to ahead of some others. */
        private static boolean closesTooSoon(Rule rule, int[] ranges, int i, int v) {
            int place = v;
            for (int among = 1; among <= rule.parts; among++) {
                if (place == i) {
                    return among < rule.parts;
                }
                int range = ranges[rule.of[place]];
                place = Integer.numberOfTrailingZeros(range);
                if (!isOne(range) || place >= rule.parts) {
                    return false;
                }
            }
            return false;
        }

        private void lookAtClause(Rule rule, int[] ranges) {
            for (int i = 0; i < rule.parts; i++) {
                so[rule.of[i]] = 0;
            }
            for (int i = 0; i < rule.parts; i++) {
                so[rule.of[i]] |= rule.a[i];
            }
            int alive = 0;
            for (int i = 0; i < rule.parts; i++) {
                int x = rule.of[i];
                if ((ranges[x] & so[x]) != 0) {
                    alive |= 1 << x;
                }
            }
            for (int i = 0; i < rule.parts; i++) {
                int x = rule.of[i];
                gone[x] = (alive & ~(1 << x)) == 0 ? ranges[x] & ~so[x] : 0;
            }
        }
    }

    /** Lets RULES take NUMBERS away till none takes any. */
    private static final class Narrower {
        private static final int MOST_ROUNDS = UNKNOWNS * NUMBERS + 1;

        private final Looker looker;
        private final Fitter fitter;

        Narrower(Looker looker, Fitter fitter) {
            this.looker = looker;
            this.fitter = fitter;
        }

        int countTaken(Rule rule, int[] ranges) {
            looker.look(rule, ranges);
            int taken = 0;
            for (int x = 0; x < UNKNOWNS; x++) {
                if (rule.isOf(x)) {
                    taken += Integer.bitCount(looker.gone[x]);
                }
            }
            return taken;
        }

        /** False: DEAD; what the ranges then hold is of no use. */
        boolean run(int[] ranges, Rule[] rules, long which) {
            if (!emptyRulesFit(rules, which, ranges)) {
                return false;
            }
            int fresh = ~0; // bits of the UNKNOWNS that lost NUMBERS since the round ahead began
            for (int round = 0; round < MOST_ROUNDS && fresh != 0; round++) {
                int changed = 0;
                for (int r = 0; r < rules.length; r++) {
                    Rule rule = rules[r];
                    if ((which >> r & 1) == 0 || (rule.members & (fresh | changed)) == 0) {
                        continue;
                    }
                    looker.look(rule, ranges);
                    for (int i = 0; i < rule.parts; i++) {
                        int x = rule.of[i];
                        int left = ranges[x] & ~looker.gone[x];
                        if (left == 0) {
                            return false;
                        }
                        if (left != ranges[x]) {
                            ranges[x] = left;
                            changed |= 1 << x;
                        }
                    }
                }
                fresh = changed;
            }
            return true;
        }

        /** A RULE without PARTS looks at no NUMBER, so that any row will do. */
        private boolean emptyRulesFit(Rule[] rules, long which, int[] anyRow) {
            for (int r = 0; r < rules.length; r++) {
                if ((which >> r & 1) != 0 && rules[r].parts == 0 && !fitter.fits(rules[r], anyRow)) {
                    return false;
                }
            }
            return true;
        }
    }

    /** Seeks ANSWERS from the least on; a RULE is looked at as soon as all its PARTS are chosen. */
    private static final class Search {
        private static final int MOST_MOVES = 1000000;

        private final Fitter fitter;
        final int[] number = new int[UNKNOWNS]; // the ANSWER found last
        private final int[] open = new int[UNKNOWNS];
        private final int[] left = new int[UNKNOWNS];
        private final int[] stage = new int[UNKNOWNS];
        private final long[] dueAt = new long[UNKNOWNS + 1];

        Search(Fitter fitter) {
            this.fitter = fitter;
        }

        /** How many ANSWERS there are, most at most; no RANGE that it gets is empty. */
        int find(int[] ranges, int unknowns, Rule[] rules, long which, int most) {
            int choices = arrange(ranges, unknowns, rules, which);
            if (!allFit(rules, dueAt[0])) {
                return 0;
            }
            if (choices == 0) {
                return 1;
            }
            int found = 0;
            int level = 0;
            left[0] = ranges[open[0]];
            for (int moves = 0; level >= 0 && found < most && moves < MOST_MOVES; moves++) {
                int range = left[level];
                if (range == 0) {
                    level--;
                    continue;
                }
                number[open[level]] = Integer.numberOfTrailingZeros(range);
                left[level] = range & (range - 1);
                if (!allFit(rules, dueAt[level + 1])) {
                    continue;
                }
                if (level + 1 == choices) {
                    found++;
                } else {
                    level++;
                    left[level] = ranges[open[level]];
                }
            }
            return found;
        }

        /** Chooses what has one NUMBER; says at which stage each RULE is due: how many are open. */
        private int arrange(int[] ranges, int unknowns, Rule[] rules, long which) {
            int choices = 0;
            dueAt[0] = 0;
            for (int x = 0; x < unknowns; x++) {
                number[x] = Integer.numberOfTrailingZeros(ranges[x]);
                stage[x] = 0;
                if (!isOne(ranges[x])) {
                    open[choices] = x;
                    choices++;
                    stage[x] = choices;
                    dueAt[choices] = 0;
                }
            }
            for (int r = 0; r < rules.length; r++) {
                if ((which >> r & 1) != 0) {
                    dueAt[lastStage(rules[r])] |= 1L << r;
                }
            }
            return choices;
        }

        private int lastStage(Rule rule) {
            int last = 0;
            for (int i = 0; i < rule.parts; i++) {
                last = Math.max(last, stage[rule.of[i]]);
            }
            return last;
        }

        private boolean allFit(Rule[] rules, long due) {
            long rest = due;
            for (int looked = 0; looked < rules.length && rest != 0; looked++) {
                if (!fitter.fits(rules[Long.numberOfTrailingZeros(rest)], number)) {
                    return false;
                }
                rest &= rest - 1;
            }
            return true;
        }
    }
}
