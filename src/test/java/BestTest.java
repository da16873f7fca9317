/** Promises 19 to 24: by what it lasts. */
final class BestTest {
    private static final int MIN = Integer.MIN_VALUE;
    private static final int MAX = Integer.MAX_VALUE;

    private BestTest() {
    }

    static void tests() {
        rules();
        rulesByTooFew();
        which();
        when();
        whenItCannotBe();
        enough();
        feast();
        laundry();
    }

    private static void rules() {
        AlwaysTheTopTwo x = Made.ruled(Made.of(0, 300, 0, 0), 1, 0, 3, 1);
        Tally.due("19: both are LEFT if the least WORN is taken", x.rules(45, 0), 20);
        Tally.due("19: none is LEFT by any; FIRST is latest", x.rules(60, 0), 20);
        Tally.due("19: all alike, FIRST is none", x.rules(5, 0), 0);
        Tally.due("19: no weeks", x.rules(0, 0), 0);
        Tally.due("19: TOO FEW alike", x.rules(60, 1), 0);
        Tally.due("19: the rules stay", x.count(4) * 10 + x.count(5), 31);
        for (int n : new int[] {-1, 201, MIN, MAX}) {
            Tally.due("19: n " + n, x.rules(n, 0), -2);
        }
        for (int goal : new int[] {-1, 2, MIN, MAX}) {
            Tally.due("19: goal " + goal, x.rules(1, goal), -2);
        }
        // What lies a fifth week goes to CLOTHS, 0 if it lies once: by 11 only 0 is taken, and 1 and 2 go in week 4;
        // by 10, from below and on the top, 0 goes in week 1, and 1 and 2 are taken in turn.
        AlwaysTheTopTwo y = Made.byLaw(Made.of(0, 0, 0, 0, 0, 0), "wears 10;yellows 1+99*(lain=4);costs 0;");
        Made.ruled(y, 1, 0, 0, 0);
        y.put(0, 1, 98);
        Tally.due("19: most LEFT ahead of FIRST", y.rules(10, 0), 10);
        // What lies a third week goes to CLOTHS, so 1, which lies in the middle, must be taken at once.
        AlwaysTheTopTwo v = Made.byLaw(Made.of(0, 0, 0, 0, 0, 0), "wears 10;yellows 99*(lain=2);costs 0;");
        Made.ruled(v, 1, 0, 0, 0);
        v.put(1, 2, 2);
        Tally.due("19: that which has LAIN longest", v.rules(9, 0), 30);
        AlwaysTheTopTwo z = Made.ruled(Made.of(0, 390, 0, 0), 1, 0, 0, 0);
        // One week: the lowest goes to CLOTHS at once; of those by which none goes the first.
        Tally.due("19: of like ones the first", z.rules(1, 0), 0);
        z.pileUp(3);
        Tally.due("19: by TAKEN ahead of LAID", z.rules(1, 0), 10);
    }

    private static void rulesByTooFew() {
        AlwaysTheTopTwo x = Made.ruled(Made.of(0, 0, 0, 0), 1, 0, 0, 0);
        x.put(0, 1, 98);
        // Only the lowest one, laid below all again, is taken week by week, so that it doesn't yellow.
        Tally.due("19: TOO FEW are fewest", x.rules(60, 1), 11);
        Tally.due("19: LEFT are most", x.rules(60, 0), 11);
        Tally.due("19: alike for 40 weeks", x.rules(40, 1), 0);
    }

    private static void which() {
        AlwaysTheTopTwo x = Made.ruled(Made.of(0, 0, 0, 390), 2, 0, 0, 0);
        Tally.due("20: the one that would go", x.which(5), 1);
        Tally.due("20: none goes in no weeks", x.which(0), -1);
        Tally.due("20: it is not TURNED by asking", x.told(1, 5), 0);
        x.turn(1);
        x.put(1, 0, 390);
        Tally.due("20: TURNED once", x.which(5), -1);
        AlwaysTheTopTwo w = Made.of(0, 0);
        w.run(200, 0);
        Tally.due("20: none is needed", w.which(5), -1);
        AlwaysTheTopTwo y = Made.ruled(Made.of(0, 390, 0, 390), 2, 0, 0, 0);
        Tally.due("20: of like ones the first, though it lies below", y.which(5), 0);
        AlwaysTheTopTwo z = Made.ruled(Made.of(0, 380, 0, 380), 2, 3, 0, 0);
        z.live();
        Tally.due("20: none in THE PILE", z.which(60), -1);
        Tally.due("20: no LINEN", new AlwaysTheTopTwo().which(60), -1);
        // 0 lies and is never washed; 1, TURNED, stays below 400 for 20 weeks.
        AlwaysTheTopTwo v = Made.ruled(Made.of(0, 399, 0, 390), 1, 0, 0, 0);
        Tally.due("20: 0 is taken when 1 has gone", v.which(2), 1);
        for (int n : new int[] {-1, 201, MIN, MAX}) {
            Tally.due("20: n " + n, v.which(n), -2);
        }
    }

    private static void when() {
        AlwaysTheTopTwo x = Made.ruled(Made.of(0, 100), 1, 0, 0, 0);
        // WORN 390 ahead of week 29, then 195: 21 washes more, the last in week 49.
        Tally.due("21: as late as can be", x.when(0, 60, 0), 29);
        Tally.due("21: in which it goes then", x.when(0, 60, 1), 49);
        // WORN 210 ahead of week 11, then 105, and 395 behind week 39.
        Tally.due("21: the first by which it lasts", x.when(0, 40, 0), 11);
        Tally.due("21: in none", x.when(0, 40, 1), 40);
        Tally.due("21: one week", x.when(0, 1, 0), 0);
        Tally.due("21: one week, in none", x.when(0, 1, 1), 1);
        Tally.due("21: it changes nothing", x.told(0, 2) * 10 + x.told(0, 5), 1000);
        AlwaysTheTopTwo y = Made.ruled(Made.of(0, 100), 1, 1, 0, 0);
        Tally.due("21: then it is away ahead of each week", y.when(0, 60, 0), 0);
        Tally.due("21: so it goes", y.when(0, 60, 1), 34);
        for (int i : new int[] {-1, 1, MIN, MAX}) {
            Tally.due("21: LINEN " + i, x.when(i, 1, 0), -5);
            Tally.due("21: LINEN ahead of n, what", x.when(i, 0, 9), -5);
        }
        for (int n : new int[] {-1, 0, 61, MIN, MAX}) {
            Tally.due("21: n " + n, x.when(0, n, 0), -7);
        }
        for (int what : new int[] {-1, 2, MIN, MAX}) {
            Tally.due("21: what " + what, x.when(0, 1, what), -7);
        }
    }

    private static void whenItCannotBe() {
        AlwaysTheTopTwo x = Made.ruled(Made.of(0, 700), 1, 0, 0, 0);
        x.turn(0);
        Tally.due("21: TURNED", x.when(0, 60, 0), -1);
        Tally.due("21: TURNED, it goes all the same", x.when(0, 60, 1), 4);
        Tally.due("21: TURNED, in none of four", x.when(0, 4, 1), 4);
        Tally.due("21: TURNED, in none of three", x.when(0, 3, 1), 3);
        for (int k = 0; k < 5; k++) {
            x.live();
        }
        Tally.due("21: CLOTHS", x.when(0, 60, 0), -1);
        Tally.due("21: CLOTHS go to CLOTHS in none", x.when(0, 60, 1), 60);
        AlwaysTheTopTwo y = Made.ruled(Made.of(0, 370), 1, 1, 0, 0);
        y.live();
        Tally.due("21: away ahead of each", y.when(0, 60, 0), -1);
        Tally.due("21: without TURNING", y.when(0, 60, 1), 1);
    }

    private static void enough() {
        int[] three = {0, 0, 0, 0, 0, 0};
        Tally.due("22: all back each week", Made.ruled(Made.of(three), 0, 1, 0, 0).enough(10), 3);
        Tally.due("22: two weeks away", Made.ruled(Made.of(three), 0, 2, 0, 0).enough(10), 1);
        Tally.due("22: three weeks away", Made.ruled(Made.of(three), 0, 3, 0, 0).enough(10), 1);
        Tally.due("22: one week", Made.ruled(Made.of(three), 5, 2, 0, 0).enough(1), 3);
        Tally.due("22: no weeks", Made.of(three).enough(0), 8);
        Tally.due("22: no LINEN", new AlwaysTheTopTwo().enough(1), 0);
        Tally.due("22: eight", Made.of(0, 0, 0, 0, 0, 0, 0, 0, 0, 0, 0, 0, 0, 0, 0, 0).enough(9), 8);
        AlwaysTheTopTwo x = Made.byLaw(Made.of(0, 0, 0, 0), "wears 99*(wanted=1);yellows 0;costs 0;");
        Tally.due("22: two would be, but one would not", x.enough(20), 0);
        Tally.due("22: WANTED stays", x.count(2), 2);
        AlwaysTheTopTwo y = Made.byLaw(Made.of(0, 0, 0, 0), "wears 99*(wanted=2);yellows 0;costs 0;");
        Tally.due("22: one would be, two would not", y.enough(20), 1);
        for (int n : new int[] {-1, 201, MIN, MAX}) {
            Tally.due("22: n " + n, x.enough(n), -2);
        }
    }

    private static void feast() {
        AlwaysTheTopTwo x = Made.ruled(Made.of(0, 0, 0, 0, 0, 0), 1, 2, 0, 0);
        Tally.due("23: as many as there are", x.feast(5, 2, 2), 0);
        Tally.due("23: one is away", x.feast(5, 2, 3), 1);
        Tally.due("23: all out, none the week behind", x.feast(5, 0, 3), 1);
        Tally.due("23: but if it is the last one", x.feast(1, 0, 3), 0);
        Tally.due("23: eight", x.feast(1, 0, 8), 5);
        Tally.due("23: fewer", new AlwaysTheTopTwo().feast(20, 19, 0), -2);
        AlwaysTheTopTwo y = Made.byLaw(Made.ruled(Made.of(0, 380), 1, 0, 0, 0), "wears wanted*10;yellows 0;costs 0;");
        Tally.due("23: the text's wanted as ever", y.feast(3, 0, 8), 7);
        Tally.due("23: WANTED stays", y.count(2), 1);
        for (int n : new int[] {-1, 0, 201, MIN, MAX}) {
            Tally.due("23: n " + n, x.feast(n, 0, 1), -1000000);
        }
        for (int at : new int[] {-1, 5, 200, MIN, MAX}) {
            Tally.due("23: at " + at, x.feast(5, at, 1), -1000000);
        }
        for (int guests : new int[] {-1, 9, MIN, MAX}) {
            Tally.due("23: guests " + guests, x.feast(5, 1, guests), -1000000);
        }
        Tally.due("23: the last of 200", new AlwaysTheTopTwo().feast(200, 199, 8), 6);
    }

    private static void laundry() {
        int[] three = {0, 0, 0, 0, 0, 0};
        Tally.due("24: three, one wanted", Made.ruled(Made.of(three), 1, 0, 0, 0).laundry(10), 3);
        Tally.due("24: two, one wanted", Made.ruled(Made.of(0, 0, 0, 0), 1, 0, 0, 0).laundry(10), 2);
        Tally.due("24: three, three wanted", Made.ruled(Made.of(three), 3, 3, 0, 0).laundry(10), 1);
        Tally.due("24: three, four wanted", Made.ruled(Made.of(three), 4, 0, 0, 0).laundry(10), -1);
        Tally.due("24: none wanted", Made.ruled(new AlwaysTheTopTwo(), 0, 0, 0, 0).laundry(10), 3);
        Tally.due("24: no weeks", new AlwaysTheTopTwo().laundry(0), 3);
        Tally.due("24: no LINEN", new AlwaysTheTopTwo().laundry(1), -1);
        // 1 lasts for three washes, and what lies goes to CLOTHS. When 0 comes back in the third week, it lies above 1
        // if 1 was laid the week ahead, and is taken; by WASH 1 both come back then, by numbers, and 1 is.
        AlwaysTheTopTwo y = Made.byLaw(Made.ruled(Made.of(0, 0), 1, 3, 0, 0), "wears 10;yellows 99;costs 0;");
        y.live();
        y.buy(0, 370);
        Tally.due("24: without a wash", y.laundry(5), 0);
        AlwaysTheTopTwo x = Made.ruled(Made.of(three), 1, 2, 0, 0);
        x.laundry(10);
        Tally.due("24: WASH stays", x.count(3), 2);
        for (int n : new int[] {-1, 201, MIN, MAX}) {
            Tally.due("24: n " + n, x.laundry(n), -2);
        }
    }
}
