/** A pile of linen, week by week: what ../shared/DOC.md promises, call by call. */
public final class AlwaysTheTopTwo {
    public static final int NONE = -1, BAD = -2, STATE = -3, FULL = -4;
    public static final long NO = -4611686018427387904L;

    private static final int NO_SUCH = -5, NO_PLACE = -6, NOT_TOLD = -7;
    private static final int MISSING = -11, OUTSIDE = -12, UNLIKE = -13, BELOW_NOTHING = -14;
    private static final int NO_FEAST = -1000000, FAULT_AT = -100;

    private static final int LINEN_ROOM = 8, MOST_WORN = 999, MOST_YELLOW = 99, MOST_LAIN = 999;
    private static final int LAST_WEEK = 999, MOST_WEEKS = 200, FEW_WEEKS = 60;
    private static final int MOST_SEED = 99999, MOST_SEEDS = 30;

    // What is told of a LINEN, by the numbers that told() gives them.
    private static final int KIND = 0, MORE = 1, WORN = 2, YELLOW = 3, LAIN = 4, TURNED = 5, AWAY = 6, LASTS = 7;
    private static final int FACTS = 7;
    /** AWAY of a LINEN that is CLOTHS: told() says it so, and it never comes back. */
    private static final int IS_CLOTHS = -1;

    private static final int PLAIN = 0, FINE = 1, THIN = 2, WEDDING = 3, DARNED = 4, COT = 5;
    private static final int KINDS = 6, MORES = 10, A_WORN = 6;

    // What can be set(), by the numbers that set() gives them, and how much each may be.
    private static final int WANTED = 0, WASH = 1, TAKEN = 2, LAID = 3, RULES = 4;
    private static final int[] GREATEST = {8, 3, 3, 2};
    private static final int TAKEN_WAYS = 4, LAID_WAYS = 3;
    private static final int FROM_TOP = 0, LOWEST = 1, LEAST_WORN = 2;
    private static final int ON_TOP = 0, BELOW_ALL = 1;

    private static final int TEXT_ROOM = 6, TAPE_ROOM = 160, PARTS = 3, MOST_SAID = 99;
    private static final int WEARS = 0, YELLOWS = 1, COSTS = 2;
    private static final int MOST_OPEN = 5, MOST_DIGITS = 4;

    // TOKENS: a SIGN is its own byte; a WORD is FIRST_WORD and its number in wordOf().
    private static final int END = 0, WRONG = 1, NUMBER = 2;
    private static final int FIRST_WORD = 300, OR = 303, AND = 304, NOT = 305, FIRST_NAME = 306, WORDS = 12, NAMES = 6;
    /** Stands in no text: a - ahead of a ONE, in a text's code. */
    private static final int NEGATE = 200;

    private static final int SHEETS = 4, CELLS = 40, NO_SORT = -1, BYTES = 0, SHORTS = 1, INTS = 2;

    private final Texts texts;
    private final Tape tape;
    private final House now;
    private final House kept;
    private final House thought;
    private final House branch;
    private final Sheets sheets;
    private boolean isKept;

    public AlwaysTheTopTwo() {
        texts = new Texts();
        tape = new Tape();
        now = new House(texts);
        kept = new House(texts);
        thought = new House(texts);
        branch = new House(texts);
        sheets = new Sheets();
        isKept = false;
    }

    // ---- rules, the law

    public int count(int what) {
        switch (what) {
            case 0: return now.linen.many;
            case 1: return now.pile.size;
            case 2: return now.rule[WANTED];
            case 3: return now.rule[WASH];
            case 4: return now.rule[TAKEN];
            case 5: return now.rule[LAID];
            case 6: return now.week;
            case 7: return texts.many;
            case 8: return now.law;
            case 9: return tape.size;
            default: return BAD;
        }
    }

    public int set(int what, int v) {
        if (what < 0 || what >= RULES) {
            return NO_SUCH;
        }
        if (v < 0 || v > GREATEST[what]) {
            return NOT_TOLD;
        }
        int was = now.rule[what];
        now.rule[what] = v;
        return was;
    }

    public int feed(int n, int a, int b, int c, int d, int e) {
        if (n < 1 || n > 5 || !isByte(a) || !isByte(b) || !isByte(c) || !isByte(d) || !isByte(e)) {
            return BAD;
        }
        if (n > TAPE_ROOM - tape.size) {
            return FULL;
        }
        tape.adds(a);
        if (n > 1) {
            tape.adds(b);
        }
        if (n > 2) {
            tape.adds(c);
        }
        if (n > 3) {
            tape.adds(d);
        }
        if (n > 4) {
            tape.adds(e);
        }
        return tape.size;
    }

    public int text() {
        if (texts.many >= TEXT_ROOM) {
            return FULL;
        }
        texts.beginsText();
        int fault = tape.readsInto(texts);
        tape.size = 0;
        return fault == NONE ? texts.keepsText() : FAULT_AT - fault;
    }

    public int force(int t) {
        if (t < 0 || t >= texts.many) {
            return BAD;
        }
        int was = now.law;
        now.law = t;
        return was;
    }

    public int asks(int part, int worn, int lain, int moreTurned) {
        if (part < 0 || part >= PARTS || worn < 0 || worn > MOST_WORN || lain < 0 || lain > MOST_LAIN) {
            return BAD;
        }
        if (moreTurned < 0 || moreTurned / 10 >= MORES || moreTurned % 10 > 1) {
            return BAD;
        }
        texts.tellsLinen(worn, lain, moreTurned / 10, moreTurned % 10);
        texts.tellsWeek(now.week, now.rule[WANTED]);
        return texts.says(now.law, part);
    }

    // ---- linen, the pile

    public int buy(int kindMore, int how) {
        if (kindMore < 0 || kindMore / 10 >= KINDS || how < 0 || how > MOST_WORN) {
            return BAD;
        }
        if (now.linen.many >= LINEN_ROOM) {
            return FULL;
        }
        int i = now.linen.adds(kindMore / 10, kindMore % 10, how);
        now.laysDown(i);
        return i;
    }

    public int told(int i, int what) {
        if (!isLinen(i)) {
            return NO_SUCH;
        }
        if (what < 0 || what > LASTS) {
            return NOT_TOLD;
        }
        return what == LASTS ? now.linen.lasts(i) : now.linen.fact(i, what);
    }

    public int put(int i, int what, int v) {
        if (!isLinen(i)) {
            return NO_SUCH;
        }
        if (what < 0 || what > 2 || v < 0 || v > (what == 1 ? MOST_YELLOW : MOST_WORN)) {
            return NOT_TOLD;
        }
        int was = now.linen.fact(i, WORN + what);
        now.linen.notes(i, WORN + what, v);
        return was;
    }

    public int lies(int place) {
        return now.pile.isPlace(place) ? now.pile.at(place) : NO_PLACE;
    }

    public int turn(int i) {
        if (!isLinen(i)) {
            return NO_SUCH;
        }
        if (!now.canTurn(i)) {
            return STATE;
        }
        now.turnsOver(i);
        return now.linen.fact(i, WORN);
    }

    public int next() {
        return now.pile.at(now.placeToTake(now.rule[TAKEN]));
    }

    public int pileUp(int how) {
        if (how < 0 || how > 3) {
            return BAD;
        }
        if (how == 3) {
            now.pile.turnsUpsideDown();
        } else {
            now.sortsPile(how);
        }
        return now.pile.at(0);
    }

    // ---- weeks

    public int live() {
        if (now.week >= LAST_WEEK) {
            return FULL;
        }
        return now.livesWeek(now.rule[WANTED], now.rule[TAKEN]);
    }

    public int run(int n, int what) {
        if (!isWeeks(n) || what < 0 || what > 4) {
            return BAD;
        }
        thinks(n);
        switch (what) {
            case 0: return thought.linen.left();
            case 1: return thought.first;
            case 2: return thought.tooFew;
            case 3: return thought.out;
            default: return thought.linen.mostWorn();
        }
    }

    public int then(int i, int n, int what) {
        if (!isLinen(i)) {
            return NO_SUCH;
        }
        if (!isWeeks(n) || what < 0 || what > 1) {
            return NOT_TOLD;
        }
        thinks(n);
        return thought.linen.fact(i, WORN + what);
    }

    public int cost(int n) {
        if (!isWeeks(n)) {
            return BAD;
        }
        thinks(n);
        texts.tellsLinen(0, 0, 0, 0);
        texts.tellsWeek(now.week, now.rule[WANTED]);
        return thought.tooFew * texts.says(now.law, COSTS);
    }

    // ---- what is best

    public int rules(int n, int goal) {
        if (!isWeeks(n) || goal < 0 || goal > 1) {
            return BAD;
        }
        int best = NONE;
        int bestMark = 0;
        for (int how = 0; how < TAKEN_WAYS * LAID_WAYS; how++) {
            thinksByRules(how, n);
            int mark = goal == 0 ? markOfLasting(n) : -thought.tooFew;
            if (best == NONE || mark > bestMark) {
                best = how;
                bestMark = mark;
            }
        }
        return best / LAID_WAYS * 10 + best % LAID_WAYS;
    }

    public int which(int n) {
        if (!isWeeks(n)) {
            return BAD;
        }
        thinks(n);
        int most = thought.linen.left();
        int best = NONE;
        for (int i = 0; i < now.linen.many; i++) {
            if (now.canTurn(i)) {
                thought.beginsAs(now);
                thought.turnsOver(i);
                thought.livesWeeks(n);
                if (thought.linen.left() > most) {
                    most = thought.linen.left();
                    best = i;
                }
            }
        }
        return best;
    }

    public int when(int i, int n, int what) {
        if (!isLinen(i)) {
            return NO_SUCH;
        }
        if (n < 1 || n > FEW_WEEKS || what < 0 || what > 1) {
            return NOT_TOLD;
        }
        int best = NONE;
        int latest = NONE;
        thought.beginsAs(now);
        for (int ahead = 0; ahead < n; ahead++) {
            if (thought.canTurn(i)) {
                branch.beginsAs(thought);
                branch.turnsOver(i);
                int end = ahead + branch.weekOfCloths(i, n - ahead);
                if (end > latest) {
                    latest = end;
                    best = ahead;
                }
            }
            thought.livesWeeks(1);
        }
        if (what == 0) {
            return best;
        }
        if (best != NONE) {
            return latest;
        }
        thought.beginsAs(now);
        return thought.weekOfCloths(i, n);
    }

    public int enough(int n) {
        if (!isWeeks(n)) {
            return BAD;
        }
        int best = 0;
        for (int v = 1; v <= GREATEST[WANTED] && best == v - 1; v++) {
            thinksWith(WANTED, v, n);
            if (thought.tooFew == 0) {
                best = v;
            }
        }
        return best;
    }

    public int feast(int n, int at, int guests) {
        if (n < 1 || n > MOST_WEEKS || at < 0 || at >= n || guests < 0 || guests > GREATEST[WANTED]) {
            return NO_FEAST;
        }
        thinks(n);
        int without = thought.tooFew;
        thought.beginsAs(now);
        thought.livesWeeks(at);
        thought.livesWeek(guests, thought.rule[TAKEN]);
        thought.livesWeeks(n - at - 1);
        return thought.tooFew - without;
    }

    public int laundry(int n) {
        if (!isWeeks(n)) {
            return BAD;
        }
        int best = NONE;
        for (int v = 0; v <= GREATEST[WASH]; v++) {
            thinksWith(WASH, v, n);
            if (thought.tooFew == 0) {
                best = v;
            }
        }
        return best;
    }

    // ---- told wear

    public int judge(int s, int n) {
        int refusal = refusalOfTelling(s, n);
        if (refusal != 0) {
            return refusal;
        }
        thinks(n);
        return firstOtherwise(s);
    }

    public int rulesOf(int s, int n) {
        int refusal = refusalOfTelling(s, n);
        if (refusal != 0) {
            return refusal;
        }
        int bits = 0;
        for (int how = 0; how < TAKEN_WAYS * LAID_WAYS; how++) {
            thinksByRules(how, n);
            bits |= bitIfTold(s, how);
        }
        return bits;
    }

    public int kinds(int s, int n, int sheetSort) {
        int refusal = refusalOfTelling(s, n);
        if (refusal != 0) {
            return refusal;
        }
        if (sheetSort < 0 || !isLinen(sheetSort / 10)) {
            return NO_SUCH;
        }
        int sort = sheetSort % 10;
        if (sort > 1) {
            return NOT_TOLD;
        }
        int bits = 0;
        int end = sort == 0 ? KINDS : MORES;
        for (int v = 0; v < end; v++) {
            thought.beginsAs(now);
            thought.linen.notes(sheetSort / 10, KIND + sort, v);
            thought.livesWeeks(n);
            bits |= bitIfTold(s, v);
        }
        return bits;
    }

    public int wants(int s, int n, int sort) {
        int refusal = refusalOfTelling(s, n);
        if (refusal != 0) {
            return refusal;
        }
        if (sort < WANTED || sort > WASH) {
            return NOT_TOLD;
        }
        int bits = 0;
        for (int v = 0; v <= GREATEST[sort]; v++) {
            thinksWith(sort, v, n);
            bits |= bitIfTold(s, v);
        }
        return bits;
    }

    public int weeks(int s, int what) {
        int refusal = refusalOfTelling(s, 0);
        if (refusal != 0) {
            return refusal;
        }
        if (what < 0 || what > 1) {
            return NOT_TOLD;
        }
        int first = NONE;
        int many = 0;
        thought.beginsAs(now);
        for (int n = 0; n <= FEW_WEEKS; n++) {
            if (firstOtherwise(s) == NONE) {
                first = first == NONE ? n : first;
                many++;
            }
            thought.livesWeeks(1);
        }
        return what == 0 ? first : many;
    }

    public int laws(int s, int n) {
        int refusal = refusalOfTelling(s, n);
        if (refusal != 0) {
            return refusal;
        }
        int bits = 0;
        for (int t = 0; t < texts.many; t++) {
            thought.beginsAs(now);
            thought.law = t;
            thought.livesWeeks(n);
            bits |= bitIfTold(s, t);
        }
        return bits;
    }

    public int film(int s, int n) {
        if (!isSheet(s) || !isWeeks(n)) {
            return BAD;
        }
        thinks(n);
        sheets.makes(s, SHORTS, thought.linen.many);
        for (int i = 0; i < thought.linen.many; i++) {
            sheets.writes(s, i, thought.linen.fact(i, WORN));
        }
        return thought.linen.many;
    }

    // ---- weeks by lot

    public int drawn(int seed, int n, int oddsWhat) {
        if (!isSeed(seed) || !isWeeks(n) || oddsWhat < 0 || oddsWhat / 10 > 100 || oddsWhat % 10 > 3) {
            return BAD;
        }
        thought.beginsAs(now);
        thought.livesByLot(seed, n, oddsWhat / 10);
        switch (oddsWhat % 10) {
            case 0: return thought.linen.left();
            case 1: return thought.tooFew;
            case 2: return ((1 << thought.linen.many) - 1) & ~thought.out;
            default: return thought.linen.wornOfAll();
        }
    }

    public long odds(int seed, int n, int seedsOdds, int part) {
        if (!isSeed(seed) || !isWeeks(n) || part < 0 || part > 1) {
            return NO;
        }
        int seeds = seedsOdds / 100;
        if (seedsOdds < 100 || seeds > MOST_SEEDS) {
            return NO;
        }
        thinks(n);
        int byRule = thought.linen.left();
        int asMany = 0;
        for (int k = 0; k < seeds; k++) {
            thought.beginsAs(now);
            thought.livesByLot(seed + k, n, seedsOdds % 100);
            if (thought.linen.left() >= byRule) {
                asMany++;
            }
        }
        int common = commonDivisor(seeds, asMany);
        return (part == 0 ? asMany : seeds) / (common > 0 ? common : 1);
    }

    public int image() {
        kept.beginsAs(now);
        isKept = true;
        return kept.linen.many;
    }

    public int back() {
        if (!isKept) {
            return STATE;
        }
        now.beginsAs(kept);
        return now.linen.many;
    }

    // ---- the host

    public int sheet(int s, int sort, int n) {
        if (!isSheet(s) || sort < NO_SORT || sort > INTS || (sort != NO_SORT && n > CELLS)) {
            return BAD;
        }
        if (sort != NO_SORT && n < 0) {
            return BELOW_NOTHING;
        }
        sheets.makes(s, sort, sort == NO_SORT ? 0 : n);
        return 1;
    }

    public int cell(int s, int i, int v) {
        if (!isSheet(s)) {
            return BAD;
        }
        if (sheets.isMissing(s)) {
            return MISSING;
        }
        if (!sheets.isPlace(s, i)) {
            return OUTSIDE;
        }
        sheets.writes(s, i, v);
        return 1;
    }

    public int copy(int s, int i, int other, int j, int n) {
        if (!isSheet(s) || !isSheet(other)) {
            return BAD;
        }
        if (sheets.isMissing(s) || sheets.isMissing(other)) {
            return MISSING;
        }
        if (sheets.sort[s] != sheets.sort[other]) {
            return UNLIKE;
        }
        if (!sheets.holds(s, i, n) || !sheets.holds(other, j, n)) {
            return OUTSIDE;
        }
        sheets.moves(s, i, other, j, n);
        return n;
    }

    public int buyBy(int s, int sort, int at, int n) {
        if (!isSheet(s) || sort < BYTES || sort > INTS || n < 0 || n > LINEN_ROOM) {
            return BAD;
        }
        if (sheets.isMissing(s)) {
            return MISSING;
        }
        if (sheets.sort[s] != sort) {
            return UNLIKE;
        }
        int came = 0;
        for (int k = 0; k < n; k++) {
            int first = at + 2 * k;
            if (!sheets.isPlace(s, first) || !sheets.isPlace(s, first + 1)) {
                return OUTSIDE;
            }
            if (buy(sheets.reads(s, first), sheets.reads(s, first + 1)) >= 0) {
                came++;
            }
        }
        return came;
    }

    public int taken(int i, int kind) {
        if (kind < 0 || kind > A_WORN) {
            return BAD;
        }
        if (i < 0 || i >= 2 * LINEN_ROOM) {
            return OUTSIDE;
        }
        if (i >= LINEN_ROOM) {
            int of = i - LINEN_ROOM;
            if (!isLinen(of)) {
                return MISSING;
            }
            return kind == A_WORN ? now.linen.fact(of, WORN) : UNLIKE;
        }
        if (!now.pile.isPlace(i)) {
            return MISSING;
        }
        int lying = now.pile.at(i);
        return kind != A_WORN && now.linen.isOne(lying, kind) ? lying : UNLIKE;
    }

    // ---- what several calls ask

    private static boolean isByte(int v) {
        return v >= 0 && v <= 255;
    }

    private static boolean isWeeks(int n) {
        return n >= 0 && n <= MOST_WEEKS;
    }

    private static boolean isSeed(int seed) {
        return seed >= 0 && seed <= MOST_SEED;
    }

    private static boolean isSheet(int s) {
        return s >= 0 && s < SHEETS;
    }

    private boolean isLinen(int i) {
        return i >= 0 && i < now.linen.many;
    }

    private void thinks(int n) {
        thought.beginsAs(now);
        thought.livesWeeks(n);
    }

    private void thinksWith(int what, int v, int n) {
        thought.beginsAs(now);
        if (what >= 0 && what < RULES) {
            thought.rule[what] = v;
        }
        thought.livesWeeks(n);
    }

    /** The rules are numbered: 3 times how TAKEN, and how LAID. */
    private void thinksByRules(int how, int n) {
        thought.beginsAs(now);
        thought.rule[TAKEN] = how / LAID_WAYS;
        thought.rule[LAID] = how % LAID_WAYS;
        thought.livesWeeks(n);
    }

    /** One number to compare by: FIRST is n at most, so it only decides between those of which as many are LEFT. */
    private int markOfLasting(int n) {
        int first = thought.first == NONE ? n : thought.first;
        return thought.linen.left() * (MOST_WEEKS + 1) + first;
    }

    private int refusalOfTelling(int s, int n) {
        if (!isSheet(s)) {
            return BAD;
        }
        if (sheets.isMissing(s)) {
            return MISSING;
        }
        if (sheets.size[s] != now.linen.many) {
            return BAD;
        }
        return isWeeks(n) ? 0 : NOT_TOLD;
    }

    /** The first LINEN in thought of which a SHEET tells another WORN. */
    private int firstOtherwise(int s) {
        for (int i = 0; i < thought.linen.many; i++) {
            if (sheets.reads(s, i) != thought.linen.fact(i, WORN)) {
                return i;
            }
        }
        return NONE;
    }

    private int bitIfTold(int s, int bit) {
        return firstOtherwise(s) == NONE ? 1 << bit : 0;
    }

    private static int commonDivisor(int a, int b) {
        for (int k = 0; k < 64 && b != 0; k++) {
            int rest = a % b;
            a = b;
            b = rest;
        }
        return a;
    }

    /** The LINEN by numbers, with what its KIND makes of a text. */
    private static final class Linen {
        int many;
        private final int[] facts = new int[LINEN_ROOM * FACTS];

        void becomes(Linen other) {
            many = other.many;
            System.arraycopy(other.facts, 0, facts, 0, LINEN_ROOM * FACTS);
        }

        int fact(int i, int what) {
            if (i < 0 || i >= LINEN_ROOM || what < 0 || what >= FACTS) {
                return 0;
            }
            return facts[i * FACTS + what];
        }

        void notes(int i, int what, int v) {
            if (i >= 0 && i < LINEN_ROOM && what >= 0 && what < FACTS) {
                facts[i * FACTS + what] = v;
            }
        }

        /** All else of it is 0: behind the last LINEN the row is all 0, for back() copies that, too. */
        int adds(int kind, int more, int worn) {
            int i = many;
            notes(i, KIND, kind);
            notes(i, MORE, more);
            notes(i, WORN, worn);
            many++;
            return i;
        }

        boolean isCloths(int i) {
            return fact(i, AWAY) == IS_CLOTHS;
        }

        int left() {
            int left = 0;
            for (int i = 0; i < many; i++) {
                left += isCloths(i) ? 0 : 1;
            }
            return left;
        }

        int mostWorn() {
            int most = NONE;
            for (int i = 0; i < many; i++) {
                most = Math.max(most, fact(i, WORN));
            }
            return most;
        }

        int wornOfAll() {
            int sum = 0;
            for (int i = 0; i < many; i++) {
                sum += fact(i, WORN);
            }
            return sum;
        }

        boolean isOne(int i, int kind) {
            int own = fact(i, KIND);
            return own == kind || kind == PLAIN || (own == WEDDING && kind == FINE) || (own == DARNED && kind == THIN);
        }

        int lasts(int i) {
            int more = fact(i, MORE);
            switch (fact(i, KIND)) {
                case THIN: return 400 - 20 * more;
                case WEDDING: return 400 + 10 * more;
                case DARNED: return 500 - 20 * more;
                case COT: return 150 + 10 * more;
                default: return 400;
            }
        }

        int wearsBy(int i, int said) {
            int more = fact(i, MORE);
            int thinMore = fact(i, WORN) > 200 ? more : 0;
            switch (fact(i, KIND)) {
                case FINE:
                case WEDDING: return Math.max(0, said - more / 2);
                case THIN: return said + thinMore;
                case DARNED: return said + thinMore + 2;
                case COT: return said / 2;
                default: return said;
            }
        }

        int yellowsBy(int i, int said) {
            switch (fact(i, KIND)) {
                case FINE: return said + 1;
                case WEDDING: return fact(i, LAIN) > 10 ? 2 * (said + 1) : said + 1;
                default: return said;
            }
        }
    }

    /** THE PILE, from the top. */
    private static final class Pile {
        int size;
        private final int[] lying = new int[LINEN_ROOM];

        void becomes(Pile other) {
            size = other.size;
            System.arraycopy(other.lying, 0, lying, 0, LINEN_ROOM);
        }

        boolean isPlace(int place) {
            return place >= 0 && place < size && place < LINEN_ROOM;
        }

        /** NONE: no such place. */
        int at(int place) {
            return place >= 0 && place < size && place < LINEN_ROOM ? lying[place] : NONE;
        }

        int placeOf(int i) {
            for (int place = 0; place < size; place++) {
                if (at(place) == i) {
                    return place;
                }
            }
            return NONE;
        }

        void insertsAt(int place, int i) {
            if (place < 0 || place > size || size >= LINEN_ROOM) {
                return;
            }
            System.arraycopy(lying, place, lying, place + 1, size - place);
            lying[place] = i;
            size++;
        }

        /** NONE: no such place, and nothing is removed. */
        int removesAt(int place) {
            if (place < 0 || place >= size || size > LINEN_ROOM) {
                return NONE;
            }
            int i = lying[place];
            System.arraycopy(lying, place + 1, lying, place, size - place - 1);
            size--;
            return i;
        }

        void turnsUpsideDown() {
            int end = size;
            for (int place = 0; place < end; place++) {
                insertsAt(0, removesAt(place));
            }
        }
    }

    /** All that an IMAGE keeps, and how it lives on; what its weeks came to since it began. */
    private static final class House {
        final Linen linen = new Linen();
        final Pile pile = new Pile();
        final int[] rule = {2, 1, FROM_TOP, ON_TOP};
        int week;
        int law;
        int tooFew;
        int out;
        int first = NONE;
        private int lived;
        private final Texts texts;

        House(Texts texts) {
            this.texts = texts;
        }

        void beginsAs(House other) {
            linen.becomes(other.linen);
            pile.becomes(other.pile);
            System.arraycopy(other.rule, 0, rule, 0, RULES);
            week = other.week;
            law = other.law;
            tooFew = 0;
            out = 0;
            first = NONE;
            lived = 0;
        }

        boolean canTurn(int i) {
            return linen.fact(i, TURNED) == 0 && pile.placeOf(i) != NONE;
        }

        void turnsOver(int i) {
            linen.notes(i, WORN, linen.fact(i, WORN) / 2);
            linen.notes(i, TURNED, 1);
        }

        void laysDown(int i) {
            int place = 0;
            if (rule[LAID] == BELOW_ALL) {
                place = pile.size;
            } else if (rule[LAID] != ON_TOP) {
                for (int k = 0; k < LINEN_ROOM && pile.isPlace(place) && pile.at(place) < i; k++) {
                    place++;
                }
            }
            pile.insertsAt(place, i);
        }

        int placeToTake(int how) {
            if (how == FROM_TOP || how == LOWEST) {
                return how == FROM_TOP && pile.size > 0 ? 0 : pile.size - 1;
            }
            int best = NONE;
            int bestMark = 0;
            for (int place = 0; place < pile.size; place++) {
                int i = pile.at(place);
                int mark = how == LEAST_WORN ? -linen.fact(i, WORN) : linen.fact(i, LAIN);
                if (best == NONE || mark > bestMark) {
                    best = place;
                    bestMark = mark;
                }
            }
            return best;
        }

        /** By how: 0 the least WORN on the top, 1 the most, 2 the least number; like ones keep their order. */
        void sortsPile(int how) {
            int end = pile.size;
            for (int from = 1; from < end; from++) {
                int i = pile.removesAt(from);
                int place = from;
                for (int k = 0; k < LINEN_ROOM && place > 0 && markOf(pile.at(place - 1), how) > markOf(i, how); k++) {
                    place--;
                }
                pile.insertsAt(place, i);
            }
        }

        private int markOf(int i, int how) {
            if (how == 2) {
                return i;
            }
            return how == 0 ? linen.fact(i, WORN) : -linen.fact(i, WORN);
        }

        void livesWeeks(int n) {
            for (int k = 0; k < n; k++) {
                livesWeek(rule[WANTED], rule[TAKEN]);
            }
        }

        void livesByLot(int seed, int n, int odds) {
            long lot = seed + 1;
            for (int k = 0; k < n; k++) {
                lot = lot * 48271L % 2147483647L;
                livesWeek(rule[WANTED], lot % 100 < odds ? FROM_TOP : rule[TAKEN]);
            }
        }

        /** In which of n weeks it goes to CLOTHS; n: in none. */
        int weekOfCloths(int i, int n) {
            if (linen.isCloths(i)) {
                return n;
            }
            for (int k = 0; k < n; k++) {
                livesWeek(rule[WANTED], rule[TAKEN]);
                if (linen.isCloths(i)) {
                    return k;
                }
            }
            return n;
        }

        /** How many are wanted and how they are taken are told apart from the rules: a feast and a lot break them. */
        int livesWeek(int wanted, int how) {
            int leftAhead = linen.left();
            comesBack();
            int few = 0;
            int worked = 0;
            for (int k = 0; k < wanted; k++) {
                int i = pile.removesAt(placeToTake(how));
                if (i == NONE) {
                    few++;
                } else {
                    worked |= 1 << i;
                }
            }
            yellows();
            washes(worked);
            dropsYellow();
            if (first == NONE && linen.left() < leftAhead) {
                first = lived;
            }
            tooFew += few;
            out |= worked;
            lived++;
            week++;
            return few;
        }

        private void comesBack() {
            for (int i = 0; i < linen.many; i++) {
                int away = linen.fact(i, AWAY);
                if (away > 0) {
                    linen.notes(i, AWAY, away - 1);
                    if (away == 1) {
                        laysDown(i);
                    }
                }
            }
        }

        private void yellows() {
            for (int place = 0; place < pile.size; place++) {
                int i = pile.at(place);
                tellsOf(i);
                int more = linen.yellowsBy(i, texts.says(law, YELLOWS));
                linen.notes(i, YELLOW, Math.min(MOST_YELLOW, linen.fact(i, YELLOW) + more));
                linen.notes(i, LAIN, Math.min(MOST_LAIN, linen.fact(i, LAIN) + 1));
            }
        }

        private void washes(int worked) {
            for (int i = 0; i < linen.many; i++) {
                if ((worked >> i & 1) == 1) {
                    tellsOf(i);
                    int more = linen.wearsBy(i, texts.says(law, WEARS));
                    linen.notes(i, WORN, Math.min(MOST_WORN, linen.fact(i, WORN) + more));
                    linen.notes(i, LAIN, 0);
                    linen.notes(i, AWAY, rule[WASH]);
                    if (linen.fact(i, WORN) >= linen.lasts(i)) {
                        linen.notes(i, AWAY, IS_CLOTHS);
                    } else if (rule[WASH] == 0) {
                        laysDown(i);
                    }
                }
            }
        }

        private void dropsYellow() {
            for (int place = pile.size - 1; place >= 0; place--) {
                if (linen.fact(pile.at(place), YELLOW) == MOST_YELLOW) {
                    linen.notes(pile.removesAt(place), AWAY, IS_CLOTHS);
                }
            }
        }

        /** The text's wanted is the rule's, whatever a feast wants. */
        private void tellsOf(int i) {
            texts.tellsLinen(linen.fact(i, WORN), linen.fact(i, LAIN), linen.fact(i, MORE), linen.fact(i, TURNED));
            texts.tellsWeek(week, rule[WANTED]);
        }
    }

    /** The TEXTS as code: a NUMBER is itself, any other step is below 0; operands stand ahead of what joins them. */
    private static final class Texts {
        int many = 1;
        private final int[] code = new int[TEXT_ROOM * TAPE_ROOM];
        private final int[] ends = new int[TEXT_ROOM * PARTS];
        private final int[] named = new int[NAMES];
        private final int[] stack = new int[TAPE_ROOM];
        private int size;

        Texts() {
            code[0] = 10;
            code[1] = 1;
            code[2] = 50;
            ends[0] = 1;
            ends[1] = 2;
            ends[2] = 3;
        }

        void beginsText() {
            size = 0;
        }

        void adds(int step) {
            if (many >= 0 && many < TEXT_ROOM && size >= 0 && size < TAPE_ROOM) {
                code[many * TAPE_ROOM + size] = step;
                size++;
            }
        }

        void endsPart(int part) {
            if (many >= 0 && many < TEXT_ROOM && part >= 0 && part < PARTS) {
                ends[many * PARTS + part] = size;
            }
        }

        int keepsText() {
            many++;
            return many - 1;
        }

        void tellsLinen(int worn, int lain, int more, int turned) {
            named[0] = worn;
            named[1] = lain;
            named[2] = more;
            named[3] = turned;
        }

        void tellsWeek(int week, int wanted) {
            named[4] = week;
            named[5] = wanted;
        }

        int says(int law, int part) {
            if (law < 0 || law >= TEXT_ROOM || part < 0 || part >= PARTS) {
                return 0;
            }
            int top = 0;
            int begin = part == 0 ? 0 : Math.max(ends[law * PARTS + part - 1], 0);
            int end = Math.min(ends[law * PARTS + part], TAPE_ROOM);
            for (int k = begin; k < end; k++) {
                int step = code[law * TAPE_ROOM + k];
                int name = -step - FIRST_NAME;
                if (step >= 0 || (name >= 0 && name < NAMES)) {
                    if (top < TAPE_ROOM) {
                        stack[top] = step >= 0 ? step : named[name];
                        top++;
                    }
                } else if (step == -NEGATE || step == -NOT) {
                    if (top >= 1) {
                        int v = stack[top - 1];
                        stack[top - 1] = step == -NEGATE ? -v : v == 0 ? 1 : 0;
                    }
                } else if (top >= 2) {
                    stack[top - 2] = joins(-step, stack[top - 2], stack[top - 1]);
                    top--;
                }
            }
            return Math.max(0, Math.min(MOST_SAID, stack[0]));
        }

        private static int joins(int sign, int a, int b) {
            switch (sign) {
                case '+': return a + b;
                case '-': return a - b;
                case '*': return a * b;
                case '<': return a < b ? 1 : 0;
                case '=': return a == b ? 1 : 0;
                case AND: return a != 0 && b != 0 ? 1 : 0;
                default: return a != 0 || b != 0 ? 1 : 0;
            }
        }
    }

    /** THE TAPE, and how a TEXT is read from it; open: how many ( , not and - are. */
    private static final class Tape {
        int size;
        private final int[] bytes = new int[TAPE_ROOM];
        private int place;
        private int behind;
        private int token;
        private int number;

        void adds(int b) {
            if (size >= 0 && size < TAPE_ROOM) {
                bytes[size] = b;
                size++;
            }
        }

        /** The place of the FAULT; NONE: there is none. */
        int readsInto(Texts to) {
            behind = 0;
            goesOn();
            for (int part = 0; part < PARTS; part++) {
                if (token != FIRST_WORD + part) {
                    return place;
                }
                goesOn();
                if (!readsEither(to, 0) || token != ';') {
                    return place;
                }
                goesOn();
                to.endsPart(part);
            }
            return token == END ? NONE : place;
        }

        private boolean readsEither(Texts to, int open) {
            boolean is = readsBoth(to, open);
            for (int k = 0; k < TAPE_ROOM && is && token == OR; k++) {
                goesOn();
                is = readsBoth(to, open);
                to.adds(-OR);
            }
            return is;
        }

        private boolean readsBoth(Texts to, int open) {
            boolean is = readsNot(to, open);
            for (int k = 0; k < TAPE_ROOM && is && token == AND; k++) {
                goesOn();
                is = readsNot(to, open);
                to.adds(-AND);
            }
            return is;
        }

        private boolean readsNot(Texts to, int open) {
            if (token == NOT) {
                if (open >= MOST_OPEN) {
                    return false;
                }
                goesOn();
                boolean is = readsNot(to, open + 1);
                to.adds(-NOT);
                return is;
            }
            boolean is = readsSum(to, open);
            if (is && (token == '<' || token == '=')) {
                int sign = token;
                goesOn();
                is = readsSum(to, open);
                to.adds(-sign);
            }
            return is;
        }

        private boolean readsSum(Texts to, int open) {
            boolean is = readsTerm(to, open);
            for (int k = 0; k < TAPE_ROOM && is && (token == '+' || token == '-'); k++) {
                int sign = token;
                goesOn();
                is = readsTerm(to, open);
                to.adds(-sign);
            }
            return is;
        }

        private boolean readsTerm(Texts to, int open) {
            boolean is = readsOne(to, open);
            for (int k = 0; k < TAPE_ROOM && is && token == '*'; k++) {
                goesOn();
                is = readsOne(to, open);
                to.adds(-'*');
            }
            return is;
        }

        private boolean readsOne(Texts to, int open) {
            if (token == NUMBER || (token >= FIRST_NAME && token < FIRST_NAME + NAMES)) {
                to.adds(token == NUMBER ? number : -token);
                goesOn();
                return true;
            }
            if ((token != '-' && token != '(') || open >= MOST_OPEN) {
                return false;
            }
            if (token == '-') {
                goesOn();
                boolean is = readsOne(to, open + 1);
                to.adds(-NEGATE);
                return is;
            }
            goesOn();
            if (!readsEither(to, open + 1) || token != ')') {
                return false;
            }
            goesOn();
            return true;
        }

        /** The byte at a place; behind the last one -1, which no TOKEN holds. */
        private int byteAt(int at) {
            return at >= 0 && at < size && at < TAPE_ROOM ? bytes[at] : -1;
        }

        private void goesOn() {
            place = behind;
            for (int k = 0; k < TAPE_ROOM && (byteAt(place) == ' ' || byteAt(place) == '\n'); k++) {
                place++;
            }
            int b = byteAt(place);
            behind = place + 1;
            if (b < 0) {
                token = END;
                behind = place;
            } else if (isLetter(b)) {
                token = readsWord();
            } else if (isDigit(b)) {
                token = readsNumber();
            } else {
                token = isSign(b) ? b : WRONG;
            }
        }

        private int readsWord() {
            for (int k = 0; k < TAPE_ROOM && isLetter(byteAt(behind)); k++) {
                behind++;
            }
            for (int w = 0; w < WORDS; w++) {
                if (stands(wordOf(w))) {
                    return FIRST_WORD + w;
                }
            }
            return WRONG;
        }

        private int readsNumber() {
            for (int k = 0; k < TAPE_ROOM && isDigit(byteAt(behind)); k++) {
                behind++;
            }
            if (behind - place > MOST_DIGITS) {
                return WRONG;
            }
            number = 0;
            for (int at = place; at < behind; at++) {
                number = number * 10 + byteAt(at) - '0';
            }
            return NUMBER;
        }

        private boolean stands(String word) {
            if (word.length() != behind - place) {
                return false;
            }
            for (int k = 0; k < word.length(); k++) {
                if (word.charAt(k) != byteAt(place + k)) {
                    return false;
                }
            }
            return true;
        }

        private static boolean isLetter(int b) {
            return b >= 'a' && b <= 'z';
        }

        private static boolean isDigit(int b) {
            return b >= '0' && b <= '9';
        }

        private static boolean isSign(int b) {
            return b == '(' || b == ')' || b == ';' || b == '+' || b == '-' || b == '*' || b == '<' || b == '=';
        }

        private static String wordOf(int w) {
            switch (w) {
                case 0: return "wears";
                case 1: return "yellows";
                case 2: return "costs";
                case 3: return "or";
                case 4: return "and";
                case 5: return "not";
                case 6: return "worn";
                case 7: return "lain";
                case 8: return "more";
                case 9: return "turned";
                case 10: return "week";
                default: return "wanted";
            }
        }
    }

    /** The SHEETS 0 .. 3, all in one row of numbers, so that none is made anew. */
    private static final class Sheets {
        final int[] sort = {NO_SORT, NO_SORT, NO_SORT, NO_SORT};
        final int[] size = new int[SHEETS];
        private final int[] numbers = new int[SHEETS * CELLS];

        void makes(int s, int newSort, int newSize) {
            if (isSheet(s) && newSize >= 0 && newSize <= CELLS) {
                sort[s] = newSort;
                size[s] = newSize;
                for (int i = 0; i < CELLS; i++) {
                    numbers[s * CELLS + i] = 0;
                }
            }
        }

        boolean isMissing(int s) {
            return !isSheet(s) || sort[s] == NO_SORT;
        }

        boolean isPlace(int s, int i) {
            return isSheet(s) && i >= 0 && i < size[s] && i < CELLS;
        }

        /** The n numbers from i on; by subtraction, for i and n together can be more than an int holds. */
        boolean holds(int s, int i, int n) {
            return isSheet(s) && size[s] <= CELLS && i >= 0 && n >= 0 && n <= size[s] && i <= size[s] - n;
        }

        int reads(int s, int i) {
            return isPlace(s, i) ? numbers[s * CELLS + i] : 0;
        }

        void writes(int s, int i, int v) {
            if (isPlace(s, i)) {
                numbers[s * CELLS + i] = sort[s] == BYTES ? (byte) v : sort[s] == SHORTS ? (short) v : v;
            }
        }

        void moves(int s, int i, int other, int j, int n) {
            if (holds(s, i, n) && holds(other, j, n)) {
                System.arraycopy(numbers, s * CELLS + i, numbers, other * CELLS + j, n);
            }
        }
    }
}
