/** The bounds that promises 16 to 40 name: empty, full, the last that fits, the first that doesn't. */
final class CallsBoundsTest {
    private static final int MIN = Integer.MIN_VALUE;
    private static final int MAX = Integer.MAX_VALUE;

    private CallsBoundsTest() {
    }

    static void tests() {
        noLinen();
        noWeeks();
        twoHundredWeeks();
        leftAheadOfFirst();
        turnedAtOnce();
        turnedWhenItLies();
        feastByTheRule();
        bestOfNoneAndAll();
        sixtyWeeks();
        lots();
        seedsToTheLast();
        imageOfAll();
        sheetsToTheirLastNumber();
        lowestBits();
        copyToTheLastPlace();
        buyByToTheLastPlace();
        takenToTheLastPlace();
    }

    /** One PLAIN, back each week: 10 more a week, CLOTHS in week 39. */
    private static AlwaysTheTopTwo onePlain() {
        return Made.ruled(Made.of(0, 0), 1, 1, 0, 0);
    }

    private static AlwaysTheTopTwo eight() {
        return Made.of(0, 0, 0, 0, 0, 0, 0, 0, 0, 0, 0, 0, 0, 0, 0, 0);
    }

    private static void noLinen() {
        AlwaysTheTopTwo x = new AlwaysTheTopTwo();
        for (int goal = 0; goal < 2; goal++) {
            Tally.due("19: by none all rules are alike", x.rules(9, goal), 0);
        }
        Tally.due("20: none", x.which(0), -1);
        Tally.due("22: none is enough", x.enough(1), 0);
        Tally.due("22: in no weeks eight are", x.enough(0), 8);
        Tally.due("23: a feast for eight", x.feast(1, 0, 8), 6);
        Tally.due("23: a feast for none", x.feast(1, 0, 0), -2);
        Tally.due("24: no WASH helps", x.laundry(1), -1);
        Tally.due("24: none WANTED", Made.ruled(new AlwaysTheTopTwo(), 0, 0, 0, 0).laundry(200), 3);
        x.sheet(0, 0, 0);
        Tally.due("25: nothing told of nothing", x.judge(0, 200), -1);
        Tally.due("26: so by all rules", x.rulesOf(0, 200), 4095);
        Tally.due("27: but of no LINEN", x.kinds(0, 200, 0), -5);
        Tally.due("28: by all WANTED", x.wants(0, 200, 0), 511);
        Tally.due("28: by any WASH", x.wants(0, 200, 1), 15);
        Tally.due("29: at once", x.weeks(0, 0), 0);
        Tally.due("29: behind any of 0 to 60", x.weeks(0, 1), 61);
        Tally.due("30: by the one TEXT", x.laws(0, 200), 1);
        x.sheet(0, 0, 1);
        Tally.due("25: one told of nothing", x.judge(0, 0), -2);
        for (int what = 0; what < 4; what++) {
            Tally.due("32: by lot, what " + what, x.drawn(0, 200, 1000 + what), what == 1 ? 400 : 0);
        }
        Tally.due("33: as many, above", x.odds(0, 200, 3099, 0), 1);
        Tally.due("33: as many, below", x.odds(0, 200, 3099, 1), 1);
        Tally.due("34: AN IMAGE of none", x.image(), 0);
        x.buy(0, 0);
        Tally.due("35: none there is", x.back(), 0);
        Tally.due("35: none lies", x.count(1), 0);
        Tally.due("35: told no more", x.told(0, 0), -5);
        Tally.due("35: it comes anew as 0", x.buy(10, 3), 0);
    }

    private static void noWeeks() {
        AlwaysTheTopTwo x = Made.of(0, 395, 0, 3);
        int[] run = {2, -1, 0, 0, 395};
        for (int what = 0; what < 5; what++) {
            Tally.due("16: run(0, " + what + ")", x.run(0, what), run[what]);
        }
        Tally.due("17: WORN behind none", x.then(0, 0, 0), 395);
        Tally.due("17: YELLOW behind none", x.then(0, 0, 1), 0);
        Tally.due("18: none costs", x.cost(0), 0);
        Tally.due("19: all rules are alike", x.rules(0, 0) + x.rules(0, 1), 0);
        Tally.due("20: none goes", x.which(0), -1);
        Tally.due("22: eight are enough", x.enough(0), 8);
        Tally.due("24: any WASH", x.laundry(0), 3);
        int[] drawn = {2, 0, 3, 398};
        for (int what = 0; what < 4; what++) {
            Tally.due("32: drawn(9, 0, " + what + ")", x.drawn(9, 0, 500 + what), drawn[what]);
        }
        Tally.due("33: all are LEFT", x.odds(9, 0, 1050, 0) * 100 + x.odds(9, 0, 1050, 1), 101);
        Tally.due("31: film of now", x.film(0, 0), 2);
        Tally.due("25: as it is now", x.judge(0, 0), -1);
    }

    private static void twoHundredWeeks() {
        AlwaysTheTopTwo x = onePlain();
        Tally.due("16: LEFT behind 200", x.run(200, 0), 0);
        Tally.due("16: 201", x.run(201, 0), -2);
        Tally.due("17: WORN behind 200", x.then(0, 200, 0), 400);
        Tally.due("18: 160 TOO FEW", x.cost(200), 8000);
        Tally.due("19: goal 0", x.rules(200, 0), 0);
        Tally.due("19: goal 1", x.rules(200, 1), 0);
        Tally.due("20: TURNING nothing helps nothing", x.which(200), -1);
        Tally.due("22: none is enough", x.enough(200), 0);
        // Not washed in the first of them, it lasts a week longer.
        Tally.due("23: none in the first of 200", x.feast(200, 0, 0), -1);
        Tally.due("23: as many in the last of 200", x.feast(200, 199, 1), 0);
        Tally.due("23: no week 200", x.feast(200, 200, 1), -1000000);
        Tally.due("24: none lasts", x.laundry(200), -1);
        Made.tell(x, 0, 400);
        Tally.due("25: so WORN", x.judge(0, 200), -1);
        Tally.due("26: by any rules", x.rulesOf(0, 200), 4095);
        Tally.due("27: a DARNED would be 504, a COT 150", x.kinds(0, 200, 0), 15);
        Tally.due("28: if any is WANTED", x.wants(0, 200, 0), 510);
        Tally.due("28: by any WASH", x.wants(0, 200, 1), 15);
        Tally.due("30: by the one TEXT", x.laws(0, 200), 1);
        Tally.due("31: one", x.film(1, 200), 1);
        Tally.due("31: so WORN", x.judge(1, 200), -1);
        Tally.due("32: by lot", x.drawn(99999, 200, 1003), 400);
        Tally.due("33: by lot", x.odds(99999, 200, 199, 0), 1);
        Tally.due("24: till it goes", x.laundry(40), 1);
        Tally.due("24: a WEEK more", x.laundry(41), -1);
        Tally.due("24: in two WEEKS", x.laundry(2), 1);
        Tally.due("24: in one WEEK", x.laundry(1), 3);
    }

    /**
     * TAKEN from below 0 goes in the first WEEK, and 1 is left behind the last. By all others 1 wears 10 then, and in
     * the last WEEK the one is washed to rags and what lies goes yellow: none is left, but FIRST is 199 later.
     */
    private static void leftAheadOfFirst() {
        String text = "wears 99*(week=199)+10*(week=0);yellows worn*(week=199);costs 0;";
        AlwaysTheTopTwo x = Made.byLaw(Made.ruled(Made.of(0, 390, 0, 300), 1, 0, 0, 0), text);
        Tally.due("19: most LEFT, though FIRST is at once", x.rules(200, 0), 10);
        Tally.due("19: a WEEK less, and none need go", x.rules(199, 0), 0);
        Tally.due("16: FIRST in the last of 200", x.run(200, 1), 199);
        Tally.due("16: not in 199", x.run(199, 1), -1);
    }

    private static void turnedAtOnce() {
        AlwaysTheTopTwo x = Made.ruled(Made.of(0, 999), 1, 0, 0, 0);
        Tally.due("21: it goes in the first WEEK, TURNED too", x.when(0, 60, 0), 0);
        Tally.due("21: in the first WEEK", x.when(0, 60, 1), 0);
        Tally.due("21: of one WEEK", x.when(0, 1, 0) + x.when(0, 1, 1), 0);
        x.put(0, 0, 779);
        Tally.due("21: a WEEK longer", x.when(0, 60, 1), 1);
        Tally.due("21: TURNED ahead of the first", x.when(0, 60, 0), 0);
        // By LAID 1 and TAKEN 1 it is always 0 that is washed; ahead of week 1 it is 390 WORN, then 195 and 21 washes.
        AlwaysTheTopTwo y = Made.ruled(Made.of(0, 380, 0, 0), 1, 0, 1, 1);
        Tally.due("21: by the rule", y.when(0, 60, 0), 1);
        Tally.due("21: by the rule, in which", y.when(0, 60, 1), 21);
        y.set(2, 0);
        y.set(3, 0);
        Tally.due("21: by another rule in none", y.when(0, 60, 1), 60);
        Tally.due("21: then the first is as good", y.when(0, 60, 0), 0);
        Tally.due("21: of the one that is washed", y.when(1, 60, 1), 59);
        AlwaysTheTopTwo z = Made.ruled(Made.of(0, 100, 0, 0), 1, 0, 2, 0);
        z.turn(1);
        z.put(1, 0, 390);
        Tally.due("21: without TURNING, by the rule", z.when(1, 5, 1), 5);
        z.set(2, 0);
        Tally.due("21: without TURNING, by another rule", z.when(1, 5, 1), 0);
    }

    private static void turnedWhenItLies() {
        AlwaysTheTopTwo x = onePlain();
        x.live();
        x.set(0, 0);
        Tally.due("21: AWAY ahead of the one WEEK", x.when(0, 1, 0), -1);
        Tally.due("21: so it goes in none", x.when(0, 1, 1), 1);
        Tally.due("21: it lies ahead of the second", x.when(0, 2, 0), 1);
        Tally.due("21: and goes in neither", x.when(0, 2, 1), 2);
        // Once TURNED a wash WEARS 99: the longer it waits, the later it goes, but the last WEEK is ahead of the end.
        AlwaysTheTopTwo y = Made.byLaw(Made.ruled(Made.of(0, 300), 1, 0, 0, 0), "wears 1+99*turned;yellows 0;costs 0;");
        Tally.due("21: ahead of the first that is late enough", y.when(0, 10, 0), 8);
        Tally.due("21: so it goes in none", y.when(0, 10, 1), 10);
        Tally.due("21: of three", y.when(0, 3, 0), 1);
        AlwaysTheTopTwo z = Made.ruled(Made.of(0, 399), 1, 1, 0, 0);
        z.live();
        Tally.due("21: CLOTHS can't be TURNED", z.when(0, 60, 0), -1);
        AlwaysTheTopTwo v = Made.ruled(Made.of(0, 0), 0, 0, 0, 0);
        v.put(0, 1, 90);
        Tally.due("21: TURNING does nothing against YELLOW", v.when(0, 60, 0), 0);
        Tally.due("21: by YELLOW in the ninth", v.when(0, 60, 1), 8);
        Tally.due("21: not in eight", v.when(0, 8, 1), 8);
        Tally.due("21: the last of nine", v.when(0, 9, 1), 8);
    }

    private static void feastByTheRule() {
        // 0, the lowest, goes with its next wash. One guest: by TAKEN 1 it goes at once, as it would without the feast.
        AlwaysTheTopTwo x = Made.ruled(Made.of(0, 390, 0, 0), 2, 0, 1, 0);
        Tally.due("23: TAKEN from below", x.feast(2, 0, 1), 0);
        x.set(2, 0);
        Tally.due("23: TAKEN from the top", x.feast(2, 0, 1), -1);
        x.set(2, 2);
        Tally.due("23: TAKEN the least WORN", x.feast(2, 0, 1), -1);
        x.set(2, 3);
        x.put(0, 2, 1);
        Tally.due("23: TAKEN that which has LAIN longest", x.feast(2, 0, 1), 0);
        AlwaysTheTopTwo y = Made.ruled(eight(), 8, 0, 0, 0);
        Tally.due("23: eight for eight guests", y.feast(200, 0, 8), 0);
        Tally.due("23: no guests: a wash less, a WEEK more for eight", y.feast(200, 0, 0), -8);
        Tally.due("23: in the last no guests", y.feast(200, 199, 0), -8);
        Tally.due("23: guests 9", y.feast(200, 199, 9), -1000000);
        Tally.due("23: n 201", y.feast(201, 0, 0), -1000000);
        Tally.due("23: n 0", y.feast(0, 0, 0), -1000000);
        Tally.due("23: at n", y.feast(1, 1, 0), -1000000);
    }

    private static void bestOfNoneAndAll() {
        AlwaysTheTopTwo x = eight();
        Tally.due("22: eight are enough for eight", x.enough(39), 8);
        Tally.due("22: for one who wants one, till the last of them goes", Made.of(0, 0).enough(40), 1);
        Tally.due("22: but a WEEK more", Made.of(0, 0).enough(41), 0);
        for (int i = 0; i < 8; i++) {
            x.put(i, 0, 390);
        }
        x.set(0, 8);
        Tally.due("20: eight alike, the first", x.which(1), 0);
        x.turn(0);
        Tally.due("20: seven alike, the first of these", x.which(1), 1);
        x.put(0, 0, 390);
        x.put(1, 0, 990);
        Tally.due("20: that which can be helped", x.which(1), 2);
        x.set(0, 0);
        Tally.due("20: none goes", x.which(1), -1);
        AlwaysTheTopTwo y = Made.ruled(Made.of(0, 800, 0, 800), 1, 0, 0, 0);
        Tally.due("20: it would go all the same", y.which(60), -1);
        AlwaysTheTopTwo z = Made.ruled(Made.of(0, 780, 0, 778), 2, 0, 0, 0);
        Tally.due("20: half of 780 and a wash is 400", z.which(1), 1);
    }

    private static void sixtyWeeks() {
        // WEARS 6 a week: 360 behind 60 of them, 366 behind 61.
        AlwaysTheTopTwo x = Made.byLaw(onePlain(), "wears 6;yellows 0;costs 0;");
        Made.tell(x, 0, 360);
        Tally.due("29: behind 60", x.weeks(0, 0), 60);
        Tally.due("29: that one alone", x.weeks(0, 1), 1);
        Made.tell(x, 0, 366);
        Tally.due("29: 61 is too many", x.weeks(0, 0), -1);
        Tally.due("29: no such number", x.weeks(0, 1), 0);
        Made.tell(x, 0, 0);
        Tally.due("29: behind none", x.weeks(0, 0), 0);
        Tally.due("29: none alone", x.weeks(0, 1), 1);
        AlwaysTheTopTwo y = Made.byLaw(onePlain(), "wears 0;yellows 0;costs 0;");
        Made.tell(y, 0, 0);
        Tally.due("29: at first", y.weeks(0, 0), 0);
        Tally.due("29: 0 to 60 are 61", y.weeks(0, 1), 61);
        Tally.due("21: 60 WEEKS", y.when(0, 60, 1), 60);
        Tally.due("21: 61 WEEKS", y.when(0, 61, 1), -7);
        Tally.due("25: judge knows 200", y.judge(0, 200), -1);
    }

    private static void lots() {
        // From the top 2, of least WORN 1, of longest LAIN 0.
        AlwaysTheTopTwo x = Made.of(0, 5, 0, 0, 0, 5);
        x.put(0, 2, 9);
        int[] byRule = {0b011, 0b110, 0b101, 0b110};
        for (int how = 0; how < 4; how++) {
            for (int laid = 0; laid < 3; laid++) {
                Made.ruled(x, 1, 1, how, laid);
                Tally.due("32: never, by TAKEN " + how, x.drawn(0, 1, 2), byRule[how]);
                Tally.due("32: always, from the top", x.drawn(0, 1, 1002), 0b011);
                Tally.due("32: by 71, not", x.drawn(0, 1, 712), byRule[how]);
                Tally.due("32: by 72", x.drawn(0, 1, 722), 0b011);
            }
        }
        // What is laid is laid by the rule, broken or not: SEED 0 by 100 twice from the top, WASH 0.
        int[] never = {0b011, 0b001, 0b001};
        for (int laid = 0; laid < 3; laid++) {
            AlwaysTheTopTwo y = Made.ruled(Made.of(0, 0, 0, 0, 0, 0), 1, 0, 1, laid);
            Tally.due("32: LAID " + laid + " all the same", y.drawn(0, 2, 1002), never[laid]);
        }
        AlwaysTheTopTwo z = eight();
        Tally.due("32: none of eight was OUT", z.drawn(0, 0, 2), 255);
        z.set(0, 8);
        Tally.due("32: all of eight were", z.drawn(0, 1, 2), 0);
        Tally.due("32: WORN of eight", z.drawn(0, 1, 3), 80);
        Tally.due("32: LEFT of eight", z.drawn(0, 200, 0), 0);
        Tally.due("32: WORN of eight CLOTHS", z.drawn(0, 200, 1003), 3200);
        Tally.due("32: TOO FEW of eight", z.drawn(0, 200, 1001), 8 * 160);
        Tally.due("32: how often 100, what 4", z.drawn(0, 1, 1004), -2);
        Tally.due("32: how often 101", z.drawn(0, 1, 1010), -2);
        Tally.due("32: n 201", z.drawn(0, 201, 0), -2);
        Tally.due("32: SEED 100000", z.drawn(100000, 1, 0), -2);
    }

    /** By the rule 0 is taken and 1 lies; from the top it is the other way, and 0 goes yellow. */
    private static void seedsToTheLast() {
        AlwaysTheTopTwo x = Made.ruled(Made.of(0, 0, 0, 0), 1, 0, 1, 1);
        x.put(0, 1, 98);
        // SEED 99999: 6. SEED 99998: 48271 less, 84435: 35.
        odds(x, 99999, 106, 1, 1);
        odds(x, 99999, 107, 0, 1);
        odds(x, 99998, 206, 1, 1);
        odds(x, 99998, 207, 1, 2);
        odds(x, 99998, 235, 1, 2);
        odds(x, 99998, 236, 0, 1);
        // Of SEEDS 0 .. 29 the first LOT modulo 100 is 71 times 1 .. 30: 15 are 50 or more, one is 49; none is 99.
        odds(x, 0, 3050, 1, 2);
        odds(x, 0, 3049, 8, 15);
        odds(x, 0, 3099, 0, 1);
        odds(x, 0, 3098, 0, 1);
        odds(x, 0, 3097, 1, 30);
        odds(x, 0, 3000, 1, 1);
        odds(x, 0, 2999, 0, 1);
        odds(x, 0, 100, 1, 1);
        odds(x, 0, 199, 0, 1);
        odds(x, 0, 200, 1, 1);
        for (int seedsOdds : new int[] {99, 0, -1, -100, -3000, 3100, 3199, MIN, MAX}) {
            Tally.due("33: seedsOdds " + seedsOdds, x.odds(0, 1, seedsOdds, 0), -4611686018427387904L);
        }
        Tally.due("33: n 201", x.odds(0, 201, 100, 0), -4611686018427387904L);
        Tally.due("33: SEED 100000", x.odds(100000, 1, 100, 0), -4611686018427387904L);
        Tally.due("33: part 2", x.odds(0, 1, 100, 2), -4611686018427387904L);
    }

    private static void odds(AlwaysTheTopTwo x, int seed, int seedsOdds, long above, long below) {
        Tally.due("33: odds(" + seed + ", 1, " + seedsOdds + ", 0)", x.odds(seed, 1, seedsOdds, 0), above);
        Tally.due("33: odds(" + seed + ", 1, " + seedsOdds + ", 1)", x.odds(seed, 1, seedsOdds, 1), below);
    }

    private static void imageOfAll() {
        AlwaysTheTopTwo x = new AlwaysTheTopTwo();
        for (int k = 0; k < 3; k++) {
            Tally.due("35: none till there is one", x.back(), -3);
        }
        for (int i = 0; i < 4; i++) {
            x.buy(10 * i + i, i);
        }
        Tally.due("34: four", x.image(), 4);
        for (int i = 4; i < 8; i++) {
            x.buy(50, 9);
        }
        Tally.due("8: FULL", x.buy(0, 0), -4);
        Tally.due("35: four again", x.back(), 4);
        Tally.due("35: they lie", Made.pile(x), 13210);
        for (int i = 4; i < 8; i++) {
            Tally.due("35: there is room for LINEN " + i, x.buy(9, 0), i);
            Tally.due("35: a new one " + i, x.told(i, 1), 9);
        }
        Tally.due("8: FULL again", x.buy(0, 0), -4);
        Tally.due("34: eight", x.image(), 8);
        x.pileUp(2);
        x.set(0, 8);
        for (int k = 0; k < 60; k++) {
            x.live();
        }
        Tally.due("35: from all CLOTHS", x.run(0, 0), 0);
        Tally.due("35: eight", x.back(), 8);
        Tally.due("35: are no CLOTHS again", x.run(0, 0), 8);
        Tally.due("35: lie as they lay", Made.pile(x), 176543210L);
        Tally.due("35: THE WEEK", x.count(6), 0);
        Tally.due("35: without a new IMAGE as often as one likes", x.back(), 8);
    }

    /** What stands in a SHEET can't be asked for: eight numbers of it are brought to one that judge() reads. */
    private static boolean tells(AlwaysTheTopTwo x, int s, int from, int by, int sort) {
        x.sheet(by, sort, 8);
        return x.copy(s, from, by, 0, 8) == 8 && x.judge(by, 0) == -1;
    }

    private static void sheetsToTheirLastNumber() {
        for (int s = 0; s < 4; s++) {
            for (int sort = 0; sort < 3; sort++) {
                AlwaysTheTopTwo x = eight();
                int by = (s + 1) % 4;
                String what = "SHEET " + s + ", sort " + sort;
                x.sheet(s, sort, 40);
                for (int from = 0; from < 40; from += 8) {
                    Tally.holds("36: all 0, " + what + ", from " + from, tells(x, s, from, by, sort));
                }
                for (int i = 0; i < 40; i++) {
                    x.cell(s, i, 5);
                }
                Tally.holds("37: became, " + what, !tells(x, s, 32, by, sort));
                x.sheet(s, sort, 40);
                for (int from = 0; from < 40; from += 8) {
                    Tally.holds("36: anew all 0, " + what + ", from " + from, tells(x, s, from, by, sort));
                }
                Tally.due("36: no 41, " + what, x.sheet(s, sort, 41), -2);
                Tally.due("36: it stays, " + what, x.cell(s, 39, 1), 1);
                Tally.due("36: none, " + what, x.sheet(s, sort, 0), 1);
                Tally.due("36: no place, " + what, x.cell(s, 0, 1), -12);
                Tally.due("36: below 0, " + what, x.sheet(s, sort, -1), -14);
                Tally.due("36: it stays there, " + what, x.cell(s, 0, 1), -12);
                Tally.due("36: missing, " + what, x.sheet(s, -1, 40), 1);
                Tally.due("36: it is missing, " + what, x.cell(s, 0, 1), -11);
                Tally.due("36: missing once more, " + what, x.sheet(s, -1, -40), 1);
            }
        }
        AlwaysTheTopTwo x = eight();
        for (int s = 0; s < 4; s++) {
            x.sheet(s, 2, 8);
            for (int i = 0; i < 8; i++) {
                x.cell(s, i, s + 1);
            }
        }
        for (int s = 0; s < 4; s++) {
            for (int i = 0; i < 8; i++) {
                x.put(i, 0, s + 1);
            }
            Tally.due("37: each SHEET is its own, " + s, x.judge(s, 0), -1);
        }
        Tally.due("37: the last of eight is otherwise", x.cell(3, 7, 9), 1);
        Tally.due("25: the last of eight", x.judge(3, 0), 7);
    }

    private static void lowestBits() {
        // A number put in, and what the SHEET of each sort tells then: a WORN, or -1 for none.
        int[][] due = {{5, 5, 5, 5}, {127, 127, 127, 127}, {256, 0, 256, 256}, {261, 5, 261, 261}, {-251, 5, -1, -1},
            {65536, 0, 0, -1}, {65541, 5, 5, -1}, {-65531, 5, 5, -1}, {66535, -1, 999, -1}, {MIN, 0, 0, -1},
            {MIN + 77, 77, 77, -1}, {0x7fff0000, 0, 0, -1}, {999, -1, 999, 999}};
        for (int[] d : due) {
            for (int sort = 0; sort < 3; sort++) {
                AlwaysTheTopTwo x = Made.of(0, Math.max(0, d[1 + sort]));
                x.sheet(0, sort, 1);
                x.cell(0, 0, d[0]);
                Tally.due("37: " + d[0] + " in sort " + sort, x.judge(0, 0), d[1 + sort] < 0 ? 0 : -1);
            }
        }
    }

    private static void copyToTheLastPlace() {
        for (int sort = 0; sort < 3; sort++) {
            AlwaysTheTopTwo x = Made.of(0, 7, 0, 9);
            x.sheet(0, sort, 40);
            x.sheet(1, sort, 40);
            x.sheet(2, sort, 2);
            x.cell(0, 38, 7);
            x.cell(0, 39, 9);
            Tally.due("38: all 40", x.copy(0, 0, 1, 0, 40), 40);
            Tally.due("38: the last two", x.copy(1, 38, 2, 0, 2), 2);
            Tally.due("38: they came", x.judge(2, 0), -1);
            Tally.due("38: the last to the last", x.copy(1, 39, 2, 1, 1), 1);
            Tally.due("38: 41", x.copy(0, 0, 1, 0, 41), -12);
            Tally.due("38: one behind the last", x.copy(0, 39, 1, 0, 2), -12);
            Tally.due("38: to one behind the last", x.copy(0, 0, 1, 39, 2), -12);
            Tally.due("38: from behind the last", x.copy(0, 40, 1, 0, 1), -12);
            Tally.due("38: to behind the last", x.copy(0, 0, 2, 2, 1), -12);
            Tally.due("38: none, from behind the last", x.copy(0, 40, 2, 2, 0), 0);
            Tally.due("38: none, from farther", x.copy(0, 41, 2, 2, 0), -12);
            Tally.due("38: none, to farther", x.copy(0, 40, 2, 3, 0), -12);
            Tally.due("38: n below 0", x.copy(0, 5, 2, 1, -1), -12);
            Tally.due("38: these changed nothing", x.judge(2, 0), -1);
            Tally.due("38: onto itself", x.copy(2, 0, 2, 0, 2), 2);
            Tally.due("38: it is as it was", x.judge(2, 0), -1);
        }
    }

    private static void buyByToTheLastPlace() {
        AlwaysTheTopTwo x = new AlwaysTheTopTwo();
        x.sheet(0, 2, 40);
        for (int i = 0; i < 40; i++) {
            x.cell(0, i, i);
        }
        x.image();
        Tally.due("39: eight up to the last place", x.buyBy(0, 2, 24, 8), 8);
        Tally.due("39: the first of these", x.told(0, 0) * 10 + x.told(0, 1), 24);
        Tally.due("39: the last of these", x.told(7, 0) * 10 + x.told(7, 1), 38);
        Tally.due("39: WORN 39", x.told(7, 2), 39);
        x.back();
        Tally.due("39: the eighth is half outside", x.buyBy(0, 2, 25, 8), -12);
        Tally.due("39: seven stood ahead", x.count(0), 7);
        Tally.due("39: they came", x.told(6, 2), 38);
        x.back();
        Tally.due("39: one, half outside", x.buyBy(0, 2, 39, 1), -12);
        Tally.due("39: one, outside", x.buyBy(0, 2, 40, 1), -12);
        Tally.due("39: the last one", x.buyBy(0, 2, 38, 1), 1);
        x.back();
        Tally.due("39: none", x.buyBy(0, 2, 38, 0), 0);
        Tally.due("39: nine are too many", x.buyBy(0, 2, 0, 9), -2);
        x.cell(0, 0, 59);
        x.cell(0, 1, 999);
        x.cell(0, 2, 60);
        x.cell(0, 3, 0);
        x.cell(0, 4, 0);
        x.cell(0, 5, 1000);
        x.cell(0, 6, -1);
        x.cell(0, 7, 0);
        x.cell(0, 8, 0);
        x.cell(0, 9, -1);
        x.cell(0, 10, 0);
        x.cell(0, 11, 0);
        Tally.due("39: KIND 5, MORE 9, WORN 999 and the last one, others are left out", x.buyBy(0, 2, 0, 6), 2);
        Tally.due("39: WORN 999", x.told(0, 2), 999);
        Tally.due("39: the last one", x.told(1, 2), 0);
        x.buyBy(0, 2, 20, 5);
        Tally.due("39: seven now", x.count(0), 7);
        Tally.due("39: one has room, and what is outside is told all the same", x.buyBy(0, 2, 36, 3), -12);
        Tally.due("39: it came", x.count(0), 8);
        Tally.due("39: with no room left none comes", x.buyBy(0, 2, 20, 8), 0);
    }

    private static void takenToTheLastPlace() {
        AlwaysTheTopTwo x = Made.of(0, 1, 10, 2, 20, 3, 30, 4, 40, 5, 50, 6, 0, 7, 39, 8);
        for (int i = 0; i < 8; i++) {
            Tally.due("40: LINEN at place " + i, x.taken(i, 0), 7 - i);
            Tally.due("40: it is no WORN, place " + i, x.taken(i, 6), -13);
            Tally.due("40: WORN of " + i, x.taken(8 + i, 6), 1 + i);
            for (int kind = 0; kind < 6; kind++) {
                Tally.due("40: WORN of " + i + " is no LINEN", x.taken(8 + i, kind), -13);
            }
        }
        Tally.due("40: no place 16", x.taken(16, 6), -12);
        Tally.due("40: no place -1", x.taken(-1, 6), -12);
        Tally.due("40: kind ahead of the place", x.taken(16, 7), -2);
        AlwaysTheTopTwo y = Made.ruled(Made.of(0, 395), 1, 0, 0, 0);
        y.live();
        Tally.due("40: CLOTHS don't lie", y.taken(0, 0), -11);
        Tally.due("40: nothing ahead of kind", y.taken(0, 6), -11);
        Tally.due("40: WORN of CLOTHS", y.taken(8, 6), 405);
        Tally.due("40: WORN of none ahead of kind", y.taken(9, 0), -11);
    }
}
