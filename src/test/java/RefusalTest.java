/**
 * What is asked changes nothing, and a refused call changes nothing, but where it is told: each call is made on one
 * object and not on another like it, and then both are asked for all that an object holds.
 */
final class RefusalTest {
    private static final int MIN = Integer.MIN_VALUE;
    private static final int MAX = Integer.MAX_VALUE;
    private static final int BAD = -2, STATE = -3, FULL = -4;
    private static final int NO_SUCH = -5, NO_PLACE = -6, NOT_TOLD = -7;
    private static final int MISSING = -11, OUTSIDE = -12, UNLIKE = -13, BELOW = -14;
    private static final int NO_FEAST = -1000000;
    private static final int[] LINEN = {14, 100, 23, 60, 0, 395, 55, 9};
    private static final String TAPE = "wears 3;yellows 4;costs ";

    private interface Call {
        long on(AlwaysTheTopTwo x);
    }

    private static long[] stands;
    private static long[] fullStands;

    private RefusalTest() {
    }

    static void tests() {
        stands = all(lived());
        fullStands = all(full());
        asked();
        askedOfTold();
        refusedRules();
        refusedLinen();
        refusedWeeks();
        refusedTold();
        refusedLots();
        refusedHost();
        refusedCopy();
        refusedWhenFull();
        whatIsTold();
    }

    /** Four LINEN: 3 TURNED in THE PILE, 2 CLOTHS, two in the wash; SHEETS 0 bytes, 1 shorts, 2 ints, 3 missing. */
    private static AlwaysTheTopTwo lived() {
        AlwaysTheTopTwo x = Made.ruled(Made.of(LINEN), 3, 2, 1, 2);
        x.image();
        Made.text(x, "wears 9;yellows 2;costs week;");
        x.force(1);
        x.turn(3);
        x.live();
        Made.ruled(x, 1, 3, 2, 1);
        for (int s = 0; s < 3; s++) {
            x.sheet(s, s, 4);
            for (int i = 0; i < 4; i++) {
                x.cell(s, i, 10 * s + i);
            }
        }
        Made.feed(x, TAPE);
        return x;
    }

    /** The same with eight LINEN, six TEXTS, and a TAPE that has room for four bytes, in which a TEXT stands. */
    private static AlwaysTheTopTwo full() {
        AlwaysTheTopTwo x = lived();
        Made.feed(x, "0;");
        for (int k = 0; k < 4; k++) {
            x.text();
            x.buy(10 * k, k);
            Made.feed(x, "wears 3;yellows 4;costs 5;");
        }
        Made.feed(x, " ".repeat(130));
        return x;
    }

    /** All that it holds, in answers; it is changed by it: THE TAPE is ended and read, and it goes back at the end. */
    private static long[] all(AlwaysTheTopTwo x) {
        long[] all = new long[180];
        int n = 0;
        for (int what = 0; what < 10; what++) {
            all[n++] = x.count(what);
        }
        for (int i = 0; i < 8; i++) {
            for (int what = 0; what < 8; what++) {
                all[n++] = x.told(i, what);
            }
            all[n++] = x.lies(i);
        }
        for (int t = 0; t < 6; t++) {
            x.force(t);
            all[n++] = x.asks(0, 0, 0, 0) + 100 * x.asks(1, 0, 0, 0) + 10000 * x.asks(2, 0, 0, 0);
        }
        Made.feed(x, "7;");
        all[n++] = x.count(9);
        all[n++] = x.text();
        x.force(x.count(7) - 1);
        all[n++] = x.asks(0, 0, 0, 0) + 100 * x.asks(1, 0, 0, 0) + 10000 * x.asks(2, 0, 0, 0);
        for (int s = 0; s < 4; s++) {
            all[n++] = sizeOf(x, s);
        }
        all[n++] = x.back();
        for (int what = 0; what < 9; what++) {
            all[n++] = x.count(what);
        }
        for (int i = 0; i < 4; i++) {
            for (int what = 0; what < 8; what++) {
                all[n++] = x.told(i, what);
            }
            all[n++] = x.lies(i);
        }
        for (int s = 0; s < 3; s++) {
            for (int i = 0; i < 4; i++) {
                x.put(i, 0, 10 * s + i);
            }
            all[n++] = x.judge(s, 0);
            for (int sort = 0; sort < 3; sort++) {
                all[n++] = x.buyBy(s, sort, 0, 0);
            }
        }
        return all;
    }

    /** How many numbers it has, by the first place that is outside; the number at a place is written over with itself. */
    private static long sizeOf(AlwaysTheTopTwo x, int s) {
        for (int i = 0; i < 41; i++) {
            int answer = x.copy(s, i, s, i, 1);
            if (answer != 1) {
                return 100L * answer - i;
            }
        }
        return 0;
    }

    private static void same(String what, AlwaysTheTopTwo x, long[] due) {
        long[] is = all(x);
        for (int k = 0; k < is.length; k++) {
            if (is[k] != due[k]) {
                Tally.due(what + " changes something, answer " + k, is[k], due[k]);
            }
        }
        Tally.holds(what, true);
    }

    private static void asks(String what, Call call) {
        AlwaysTheTopTwo x = lived();
        long answer = call.on(x);
        Tally.due(what + ", asked twice", call.on(x), answer);
        same(what, x, stands);
    }

    private static void due(int answer, String what, Call call) {
        AlwaysTheTopTwo x = lived();
        Tally.due("refused: " + what, call.on(x), answer);
        same(what, x, stands);
    }

    private static void dueOfFull(int answer, String what, Call call) {
        AlwaysTheTopTwo x = full();
        Tally.due("refused when full: " + what, call.on(x), answer);
        same(what, x, fullStands);
    }

    private static void asked() {
        asks("count", x -> x.count(0));
        asks("asks", x -> x.asks(2, 999, 999, 91));
        asks("told", x -> x.told(3, 7));
        asks("lies", x -> x.lies(0));
        asks("next", AlwaysTheTopTwo::next);
        for (int w = 0; w < 5; w++) {
            int what = w;
            asks("run " + what, x -> x.run(200, what));
        }
        asks("then", x -> x.then(0, 200, 0));
        asks("cost", x -> x.cost(200));
        asks("rules 0", x -> x.rules(200, 0));
        asks("rules 1", x -> x.rules(200, 1));
        asks("which", x -> x.which(200));
        asks("when 0", x -> x.when(0, 60, 0));
        asks("when 1", x -> x.when(0, 60, 1));
        asks("when it can't be 0", x -> x.when(3, 60, 0));
        asks("when it can't be 1", x -> x.when(3, 60, 1));
        asks("enough", x -> x.enough(200));
        asks("feast", x -> x.feast(200, 9, 8));
        asks("laundry", x -> x.laundry(200));
        for (int w = 0; w < 4; w++) {
            int what = w;
            asks("drawn " + what, x -> x.drawn(7, 200, 500 + what));
        }
        asks("odds 0", x -> x.odds(7, 200, 3050, 0));
        asks("odds 1", x -> x.odds(7, 200, 3050, 1));
        asks("taken, LINEN", x -> x.taken(0, 5));
        asks("taken, a WORN", x -> x.taken(8, 6));
    }

    private static void askedOfTold() {
        for (int k = 0; k < 3; k++) {
            int s = k;
            asks("judge " + s, x -> x.judge(s, 200));
            asks("rulesOf " + s, x -> x.rulesOf(s, 200));
            asks("kinds 0, " + s, x -> x.kinds(s, 200, 30));
            asks("kinds 1, " + s, x -> x.kinds(s, 200, 1));
            asks("wants 0, " + s, x -> x.wants(s, 200, 0));
            asks("wants 1, " + s, x -> x.wants(s, 200, 1));
            asks("weeks 0, " + s, x -> x.weeks(s, 0));
            asks("weeks 1, " + s, x -> x.weeks(s, 1));
            asks("laws " + s, x -> x.laws(s, 200));
        }
    }

    private static void refusedRules() {
        for (int v : new int[] {MIN, -1, 10, MAX}) {
            due(BAD, "count", x -> x.count(v));
        }
        due(NO_SUCH, "set: what below", x -> x.set(-1, 0));
        due(NO_SUCH, "set: what above, ahead of v", x -> x.set(4, 99));
        int[] most = {8, 3, 3, 2};
        for (int k = 0; k < 4; k++) {
            int what = k;
            due(NOT_TOLD, "set " + what + ": v above", x -> x.set(what, most[what] + 1));
            due(NOT_TOLD, "set " + what + ": v below", x -> x.set(what, -1));
        }
        due(BAD, "feed: n 0", x -> x.feed(0, 1, 1, 1, 1, 1));
        due(BAD, "feed: n 6", x -> x.feed(6, 1, 1, 1, 1, 1));
        due(BAD, "feed: the first", x -> x.feed(5, 256, 1, 1, 1, 1));
        due(BAD, "feed: the second", x -> x.feed(5, 1, -1, 1, 1, 1));
        due(BAD, "feed: the third", x -> x.feed(5, 1, 1, 256, 1, 1));
        due(BAD, "feed: the fourth", x -> x.feed(5, 1, 1, 1, -1, 1));
        due(BAD, "feed: the fifth", x -> x.feed(5, 1, 1, 1, 1, 256));
        due(BAD, "feed: one that would not come", x -> x.feed(1, 1, 1, 1, 1, 256));
        due(BAD, "force: below", x -> x.force(-1));
        due(BAD, "force: above", x -> x.force(2));
        due(BAD, "asks: part", x -> x.asks(3, 0, 0, 0));
        due(BAD, "asks: worn", x -> x.asks(0, 1000, 0, 0));
        due(BAD, "asks: lain", x -> x.asks(0, 0, 1000, 0));
        due(BAD, "asks: turned", x -> x.asks(0, 0, 0, 2));
        due(BAD, "asks: more", x -> x.asks(0, 0, 0, 100));
        due(BAD, "asks: below", x -> x.asks(0, 0, 0, -1));
    }

    private static void refusedLinen() {
        due(BAD, "buy: KIND", x -> x.buy(60, 0));
        due(BAD, "buy: below", x -> x.buy(-1, 0));
        due(BAD, "buy: WORN above", x -> x.buy(0, 1000));
        due(BAD, "buy: WORN below", x -> x.buy(0, -1));
        for (int v : new int[] {MIN, -1, 4, MAX}) {
            due(NO_SUCH, "told", x -> x.told(v, 8));
            due(NO_SUCH, "put", x -> x.put(v, 3, -1));
            due(NO_SUCH, "turn", x -> x.turn(v));
            due(NO_SUCH, "then", x -> x.then(v, -1, 2));
            due(NO_SUCH, "when", x -> x.when(v, 0, 2));
            due(NO_PLACE, "lies", x -> x.lies(v));
            due(BAD, "pileUp", x -> x.pileUp(v));
        }
        due(NOT_TOLD, "told: what", x -> x.told(0, 8));
        due(NOT_TOLD, "put: what", x -> x.put(0, 3, 0));
        due(NOT_TOLD, "put: WORN", x -> x.put(0, 0, 1000));
        due(NOT_TOLD, "put: YELLOW", x -> x.put(0, 1, 100));
        due(NOT_TOLD, "put: LAIN", x -> x.put(0, 2, 1000));
        due(NOT_TOLD, "put: below", x -> x.put(0, 2, -1));
        due(STATE, "turn: in the wash", x -> x.turn(1));
        due(STATE, "turn: CLOTHS", x -> x.turn(2));
        due(STATE, "turn: TURNED", x -> x.turn(3));
    }

    private static void refusedWeeks() {
        for (int n : new int[] {MIN, -1, 201, MAX}) {
            due(BAD, "run: n", x -> x.run(n, 0));
            due(NOT_TOLD, "then: n", x -> x.then(0, n, 0));
            due(BAD, "cost: n", x -> x.cost(n));
            due(BAD, "rules: n", x -> x.rules(n, 0));
            due(BAD, "which: n", x -> x.which(n));
            due(NOT_TOLD, "when: n", x -> x.when(0, n, 0));
            due(BAD, "enough: n", x -> x.enough(n));
            due(NO_FEAST, "feast: n", x -> x.feast(n, 0, 0));
            due(BAD, "laundry: n", x -> x.laundry(n));
            due(BAD, "film: n", x -> x.film(1, n));
            due(BAD, "drawn: n", x -> x.drawn(0, n, 0));
        }
        due(BAD, "run: what below", x -> x.run(1, -1));
        due(BAD, "run: what above", x -> x.run(1, 5));
        due(NOT_TOLD, "then: what below", x -> x.then(0, 1, -1));
        due(NOT_TOLD, "then: what above", x -> x.then(0, 1, 2));
        due(BAD, "rules: goal below", x -> x.rules(1, -1));
        due(BAD, "rules: goal above", x -> x.rules(1, 2));
        due(NOT_TOLD, "when: n 0", x -> x.when(0, 0, 0));
        due(NOT_TOLD, "when: n 61", x -> x.when(0, 61, 0));
        due(NOT_TOLD, "when: what", x -> x.when(0, 1, 2));
        due(NO_FEAST, "feast: n 0", x -> x.feast(0, 0, 0));
        due(NO_FEAST, "feast: at below", x -> x.feast(5, -1, 0));
        due(NO_FEAST, "feast: at n", x -> x.feast(5, 5, 0));
        due(NO_FEAST, "feast: guests below", x -> x.feast(5, 0, -1));
        due(NO_FEAST, "feast: guests above", x -> x.feast(5, 0, 9));
    }

    private static long told(AlwaysTheTopTwo x, int call, int s, int n, int sort) {
        switch (call) {
            case 0: return x.judge(s, n);
            case 1: return x.rulesOf(s, n);
            case 2: return x.laws(s, n);
            case 3: return x.kinds(s, n, sort);
            case 4: return x.wants(s, n, sort);
            default: return x.weeks(s, sort);
        }
    }

    /** Each with the refusals that would come behind it. */
    private static void refusedTold() {
        for (int k = 0; k < 6; k++) {
            int call = k;
            String what = "told wear " + call;
            due(BAD, what + ": SHEET below", x -> told(x, call, -1, 201, 99));
            due(BAD, what + ": SHEET above", x -> told(x, call, 4, 201, 99));
            due(MISSING, what + ": missing", x -> told(x, call, 3, 201, 99));
            due(BAD, what + ": too many", x -> {
                x.sheet(3, 0, 5);
                long answer = told(x, call, 3, 201, 99);
                x.sheet(3, -1, 0);
                return answer;
            });
            due(BAD, what + ": too few", x -> {
                x.sheet(3, 2, 3);
                long answer = told(x, call, 3, 201, 99);
                x.sheet(3, -1, 0);
                return answer;
            });
            due(NOT_TOLD, what + ": n above", x -> told(x, call, 0, 201, call == 5 ? 2 : 0));
            due(NOT_TOLD, what + ": n below", x -> told(x, call, 0, -1, call == 5 ? -1 : 0));
        }
        due(NOT_TOLD, "kinds: n ahead of LINEN", x -> x.kinds(0, 201, 40));
        due(NO_SUCH, "kinds: LINEN, ahead of sort", x -> x.kinds(0, 0, 42));
        due(NO_SUCH, "kinds: LINEN far off", x -> x.kinds(0, 0, MAX));
        due(NO_SUCH, "kinds: LINEN far below", x -> x.kinds(0, 0, MIN));
        due(NOT_TOLD, "kinds: sort", x -> x.kinds(0, 0, 32));
        due(NOT_TOLD, "wants: sort below", x -> x.wants(0, 0, -1));
        due(NOT_TOLD, "wants: sort above", x -> x.wants(0, 0, 2));
        due(NOT_TOLD, "weeks: what below", x -> x.weeks(0, -1));
        due(NOT_TOLD, "weeks: what above", x -> x.weeks(0, 2));
        due(BAD, "film: SHEET below", x -> x.film(-1, 0));
        due(BAD, "film: SHEET above", x -> x.film(4, 0));
    }

    private static void refusedLots() {
        due(BAD, "drawn: SEED below", x -> x.drawn(-1, 0, 0));
        due(BAD, "drawn: SEED above", x -> x.drawn(100000, 0, 0));
        due(BAD, "drawn: how often", x -> x.drawn(0, 0, 1010));
        due(BAD, "drawn: what", x -> x.drawn(0, 0, 1004));
        due(BAD, "drawn: below", x -> x.drawn(0, 0, -1));
        int[][] none = {{-1, 0, 150, 0}, {100000, 0, 150, 0}, {0, -1, 150, 0}, {0, 201, 150, 0}, {0, 0, 99, 0},
            {0, 0, 3100, 0}, {0, 0, -1, 0}, {0, 0, 150, -1}, {0, 0, 150, 2}};
        for (int[] o : none) {
            AlwaysTheTopTwo x = lived();
            Tally.due("refused: odds", x.odds(o[0], o[1], o[2], o[3]), AlwaysTheTopTwo.NO);
            same("odds", x, stands);
        }
        AlwaysTheTopTwo y = Made.of(0, 3);
        Tally.due("refused: back without AN IMAGE", y.back(), STATE);
        Tally.due("refused: back changes nothing", y.count(0) * 10 + y.told(0, 2), 13);
    }

    private static void refusedHost() {
        for (int s : new int[] {MIN, -1, 4, MAX}) {
            due(BAD, "sheet: SHEET", x -> x.sheet(s, 0, -1));
            due(BAD, "cell: SHEET", x -> x.cell(s, 99, 0));
            due(BAD, "buyBy: SHEET", x -> x.buyBy(s, 0, 99, 1));
        }
        due(BAD, "sheet: sort above", x -> x.sheet(0, 3, 1));
        due(BAD, "sheet: sort below", x -> x.sheet(0, -2, 1));
        due(BAD, "sheet: sort, ahead of n below 0", x -> x.sheet(0, 3, -1));
        due(BAD, "sheet: n 41", x -> x.sheet(0, 0, 41));
        due(BELOW, "sheet: n below 0", x -> x.sheet(0, 0, -1));
        due(BELOW, "sheet: n far below", x -> x.sheet(0, 2, MIN));
        due(MISSING, "cell: missing", x -> x.cell(3, 99, 0));
        for (int i : new int[] {MIN, -1, 4, 40, MAX}) {
            due(OUTSIDE, "cell: place", x -> x.cell(0, i, 9));
        }
        due(BAD, "buyBy: sort above", x -> x.buyBy(3, 3, 99, 1));
        due(BAD, "buyBy: sort below", x -> x.buyBy(3, -1, 99, 1));
        due(BAD, "buyBy: n above", x -> x.buyBy(3, 0, 99, 9));
        due(BAD, "buyBy: n below", x -> x.buyBy(3, 0, 99, -1));
        due(MISSING, "buyBy: missing", x -> x.buyBy(3, 0, 99, 1));
        due(UNLIKE, "buyBy: another sort", x -> x.buyBy(1, 0, 99, 1));
        due(OUTSIDE, "buyBy: below the first place", x -> x.buyBy(0, 0, -1, 1));
        due(OUTSIDE, "buyBy: half outside", x -> x.buyBy(0, 0, 3, 1));
        due(OUTSIDE, "buyBy: far off", x -> x.buyBy(0, 0, MAX, 8));
        due(BAD, "taken: kind below", x -> x.taken(99, -1));
        due(BAD, "taken: kind above", x -> x.taken(99, 7));
        due(OUTSIDE, "taken: place below", x -> x.taken(-1, 6));
        due(OUTSIDE, "taken: place above", x -> x.taken(16, 0));
        due(MISSING, "taken: nothing lies there", x -> x.taken(1, 6));
        due(MISSING, "taken: no such LINEN", x -> x.taken(12, 0));
        due(UNLIKE, "taken: another KIND", x -> x.taken(0, 1));
        due(UNLIKE, "taken: LINEN for a WORN", x -> x.taken(0, 6));
        due(UNLIKE, "taken: a WORN for LINEN", x -> x.taken(8, 1));
    }

    private static void refusedCopy() {
        for (int s : new int[] {MIN, -1, 4, MAX}) {
            due(BAD, "copy: SHEET", x -> x.copy(s, -1, 3, -1, -1));
            due(BAD, "copy: the other SHEET", x -> x.copy(3, -1, s, -1, -1));
        }
        due(MISSING, "copy: missing", x -> x.copy(3, -1, 0, -1, -1));
        due(MISSING, "copy: the other one missing", x -> x.copy(0, -1, 3, -1, -1));
        due(UNLIKE, "copy: bytes to shorts", x -> x.copy(0, -1, 1, -1, -1));
        due(UNLIKE, "copy: shorts to ints", x -> x.copy(1, 0, 2, 0, 1));
        due(UNLIKE, "copy: ints to bytes, none", x -> x.copy(2, 0, 0, 0, 0));
        int[][] outside = {{-1, 0, 1}, {0, -1, 1}, {0, 0, -1}, {0, 0, 5}, {1, 0, 4}, {0, 1, 4}, {4, 0, 1}, {0, 4, 1},
            {MAX, 0, 1}, {0, MAX, 1}, {1, 1, MAX}, {MIN, 0, 4}, {0, MIN, 4}, {0, 0, MIN}, {MAX, MAX, MAX}, {MIN, MIN, MIN}};
        for (int[] o : outside) {
            due(OUTSIDE, "copy: " + o[0] + ", " + o[1] + ", " + o[2], x -> x.copy(2, o[0], 2, o[1], o[2]));
        }
    }

    private static void refusedWhenFull() {
        dueOfFull(FULL, "buy", x -> x.buy(0, 0));
        dueOfFull(BAD, "buy: BAD ahead of FULL", x -> x.buy(0, 1000));
        dueOfFull(FULL, "text: right, but there are six", AlwaysTheTopTwo::text);
        dueOfFull(FULL, "feed: five where four have room", x -> x.feed(5, 32, 32, 32, 32, 32));
        dueOfFull(BAD, "feed: BAD ahead of FULL", x -> x.feed(5, 32, 32, 32, 32, 256));
        dueOfFull(0, "buyBy: all left out", x -> x.buyBy(0, 0, 0, 2));
        dueOfFull(OUTSIDE, "buyBy: all left out, then outside", x -> x.buyBy(0, 0, 0, 8));
        dueOfFull(BAD, "force: no TEXT 6", x -> x.force(6));
    }

    /** Where it is told that a refusal changes something, it does: THE TAPE by a FAULT, LINEN that stood ahead. */
    private static void whatIsTold() {
        AlwaysTheTopTwo x = lived();
        Tally.due("5: a FAULT", x.text(), -100 - TAPE.length());
        Tally.due("5: THE TAPE is empty then", x.count(9), 0);
        Tally.due("5: no TEXT more", x.count(7), 2);
        AlwaysTheTopTwo y = lived();
        Tally.due("39: outside behind two", y.buyBy(2, 2, 0, 3), OUTSIDE);
        Tally.due("39: what stood ahead came", y.count(0), 6);
        Tally.due("39: so WORN", 100 * y.told(4, 2) + y.told(5, 2), 2123);
        AlwaysTheTopTwo z = lived();
        Tally.due("31: film truly writes", z.film(3, 0), 4);
        Tally.due("31: what is so", z.judge(3, 0), -1);
    }
}
