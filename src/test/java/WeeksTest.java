/** Promises 16 to 18: WEEKS in thought. */
final class WeeksTest {
    private static final int MIN = Integer.MIN_VALUE;
    private static final int MAX = Integer.MAX_VALUE;

    private WeeksTest() {
    }

    static void tests() {
        run();
        firstAndCloths();
        inThought();
        then();
        cost();
    }

    /** One PLAIN, back each week: 10 more a week, CLOTHS in week 39. */
    private static AlwaysTheTopTwo onePlain() {
        return Made.ruled(Made.of(0, 0), 1, 1, 0, 0);
    }

    private static void run() {
        AlwaysTheTopTwo x = onePlain();
        int[] weeks = {0, 1, 39, 40, 41, 200};
        int[][] due = {{1, 1, 1, 0, 0, 0}, {-1, -1, -1, 39, 39, 39}, {0, 0, 0, 0, 1, 160}, {0, 1, 1, 1, 1, 1},
            {0, 10, 390, 400, 400, 400}};
        for (int what = 0; what < 5; what++) {
            for (int k = 0; k < weeks.length; k++) {
                Tally.due("16: run(" + weeks[k] + ", " + what + ")", x.run(weeks[k], what), due[what][k]);
            }
        }
        for (int v : new int[] {-1, 201, MIN, MAX}) {
            Tally.due("16: n " + v, x.run(v, 0), -2);
        }
        for (int v : new int[] {-1, 5, MIN, MAX}) {
            Tally.due("16: what " + v, x.run(1, v), -2);
        }
        AlwaysTheTopTwo away = Made.ruled(Made.of(0, 0, 0, 0, 0, 0), 1, 3, 0, 0);
        Tally.due("16: OUT in one", away.run(1, 3), 4);
        Tally.due("16: OUT in two", away.run(2, 3), 6);
        Tally.due("16: OUT in three", away.run(3, 3), 7);
        Tally.due("16: the wash keeps it three weeks", away.run(4, 2), 0);
        Tally.due("16: TOO FEW by none", new AlwaysTheTopTwo().run(200, 2), 400);
    }

    private static void firstAndCloths() {
        AlwaysTheTopTwo x = Made.ruled(Made.of(0, 0, 0, 395), 1, 1, 0, 0);
        x.live();
        Tally.due("16: CLOTHS ahead are not LEFT", x.run(0, 0), 1);
        Tally.due("16: CLOTHS ahead don't count as FIRST", x.run(39, 1), -1);
        Tally.due("16: FIRST that was none", x.run(60, 1), 39);
        Tally.due("16: OUT is not of weeks gone", x.run(5, 3), 1);
        Tally.due("16: the most WORN are CLOTHS", x.run(5, 4), 405);
        AlwaysTheTopTwo y = Made.ruled(Made.of(0, 0, 10, 0), 0, 1, 0, 0);
        Tally.due("16: FIRST by YELLOW", y.run(200, 1), 49);
        Tally.due("16: ahead of it", y.run(49, 0), 2);
        Tally.due("16: behind it", y.run(50, 0), 1);
        Tally.due("16: the other one", y.run(98, 0), 1);
        Tally.due("16: and it, too", y.run(99, 0), 0);
    }

    private static void inThought() {
        AlwaysTheTopTwo x = onePlain();
        x.run(200, 0);
        x.then(0, 200, 0);
        x.cost(200);
        Tally.due("16: it changes nothing: THE WEEK", x.count(6), 0);
        Tally.due("16: it changes nothing: THE PILE", x.count(1), 1);
        Tally.due("16: it changes nothing: WORN", x.told(0, 2), 0);
        x.live();
        Tally.due("16: from all as it is now", x.run(1, 4), 20);
        AlwaysTheTopTwo y = Made.byLaw(onePlain(), "wears week;yellows 0;costs 0;");
        Tally.due("16: THE WEEK goes on in thought", y.then(0, 4, 0), 0 + 1 + 2 + 3);
        y.live();
        Tally.due("16: from THE WEEK as it is", y.then(0, 4, 0), 1 + 2 + 3 + 4);
    }

    private static void then() {
        AlwaysTheTopTwo x = Made.ruled(Made.of(0, 0, 10, 0), 1, 1, 0, 0);
        Tally.due("17: WORN", x.then(1, 7, 0), 70);
        Tally.due("17: YELLOW", x.then(0, 7, 1), 7);
        Tally.due("17: WORN of what lies", x.then(0, 7, 0), 0);
        Tally.due("17: YELLOW of what is out", x.then(1, 7, 1), 0);
        Tally.due("17: behind none", x.then(1, 0, 0), 0);
        Tally.due("17: of CLOTHS", x.then(1, 200, 0), 400);
        for (int i : new int[] {-1, 2, MIN, MAX}) {
            Tally.due("17: LINEN " + i, x.then(i, 1, 0), -5);
            Tally.due("17: LINEN ahead of n, what", x.then(i, -1, 7), -5);
        }
        for (int n : new int[] {-1, 201, MIN, MAX}) {
            Tally.due("17: n " + n, x.then(0, n, 0), -7);
        }
        for (int what : new int[] {-1, 2, MIN, MAX}) {
            Tally.due("17: what " + what, x.then(0, 1, what), -7);
        }
    }

    private static void cost() {
        Tally.due("18: two TOO FEW each week", new AlwaysTheTopTwo().cost(60), 6000);
        Tally.due("18: none", onePlain().cost(40), 0);
        Tally.due("18: one", onePlain().cost(41), 50);
        String text = "wears 10;yellows 1;costs week+wanted*3+worn+lain+more+turned;";
        AlwaysTheTopTwo x = Made.byLaw(Made.of(9, 600), text);
        x.put(0, 2, 70);
        x.turn(0);
        x.live();
        x.live();
        x.live();
        // 300, 310, 320 WORN; then 330 .. 400 in 8 weeks, each with one TOO FEW, then two with two.
        Tally.due("18: THE WEEK as it is now, of no LINEN", x.cost(9), (7 + 2 * 2) * (3 + 2 * 3));
        for (int n : new int[] {-1, 201, MIN, MAX}) {
            Tally.due("18: n " + n, x.cost(n), -2);
        }
    }
}
