/** Promises 32 to 35: WEEKS by lot, and AN IMAGE. */
final class LotTest {
    private static final int MIN = Integer.MIN_VALUE;
    private static final int MAX = Integer.MAX_VALUE;

    private LotTest() {
    }

    static void tests() {
        drawn();
        whatIsDrawn();
        odds();
        image();
        back();
    }

    /** SEED 0: 48271, 182605794, 1291394886: modulo 100 71, 94, 86. SEED 1: 96542: 42. */
    private static void drawn() {
        AlwaysTheTopTwo x = Made.ruled(Made.of(0, 0, 0, 0), 1, 0, 1, 1);
        Tally.due("32: 71 is below 72: from the top", x.drawn(0, 1, 722), 1);
        Tally.due("32: 71 isn't below 71: by the rule", x.drawn(0, 1, 712), 2);
        Tally.due("32: SEED 1, 42 is below 43", x.drawn(1, 1, 432), 1);
        Tally.due("32: SEED 1, 42 isn't below 42", x.drawn(1, 1, 422), 2);
        // From the top 1 is taken and laid below all; then it is the lowest, and 0 the top one.
        Tally.due("32: 94 isn't below 94", x.drawn(0, 2, 942), 1);
        Tally.due("32: 94 is below 95", x.drawn(0, 2, 952), 0);
        // The third LOT, 86: by odds 90 top, rule, top: 1, 1, 0; by odds 80: 1, 1, 1.
        Tally.due("32: 86 is below 90", x.drawn(0, 3, 902), 0);
        Tally.due("32: 86 isn't below 80", x.drawn(0, 3, 802), 1);
        Tally.due("32: never by 0", x.drawn(0, 40, 2), 2);
        // 99999 and 1, times 48271: 4827100000 less twice 2147483647 is 532132706: 6.
        Tally.due("32: the last SEED, 6 is below 7", x.drawn(99999, 1, 72), 1);
        Tally.due("32: the last SEED, 6 isn't below 6", x.drawn(99999, 1, 62), 2);
        for (int seed : new int[] {-1, 100000, MIN, MAX}) {
            Tally.due("32: SEED " + seed, x.drawn(seed, 1, 0), -2);
        }
        for (int n : new int[] {-1, 201, MIN, MAX}) {
            Tally.due("32: n " + n, x.drawn(0, n, 0), -2);
        }
        for (int oddsWhat : new int[] {-1, -10, 4, 9, 1004, 1010, 1013, MIN, MAX}) {
            Tally.due("32: oddsWhat " + oddsWhat, x.drawn(0, 1, oddsWhat), -2);
        }
        Tally.due("32: oddsWhat 0", x.drawn(0, 1, 0), 2);
        Tally.due("32: always by 100", x.drawn(0, 1, 1002), 1);
        Tally.due("32: the rule stays", x.count(4), 1);
        Tally.due("32: it changes nothing", x.told(1, 2) + x.count(6), 0);
    }

    private static void whatIsDrawn() {
        AlwaysTheTopTwo x = Made.ruled(Made.of(0, 0, 0, 395), 1, 0, 1, 1);
        Tally.due("32: 1 goes to CLOTHS", x.drawn(0, 1, 720), 1);
        Tally.due("32: it doesn't by the rule", x.drawn(0, 1, 710), 2);
        Tally.due("32: WORN, together, CLOTHS too", x.drawn(0, 1, 723), 405);
        Tally.due("32: WORN of 41 weeks", x.drawn(0, 41, 1003), 405 + 400);
        Tally.due("32: TOO FEW", x.drawn(0, 45, 1001), 4);
        Tally.due("32: no weeks", x.drawn(0, 0, 1002), 3);
        AlwaysTheTopTwo none = new AlwaysTheTopTwo();
        Tally.due("32: of none LEFT", none.drawn(5, 7, 500), 0);
        Tally.due("32: of none TOO FEW", none.drawn(5, 7, 501), 14);
        Tally.due("32: of none never OUT", none.drawn(5, 7, 502), 0);
        Tally.due("32: of none WORN", none.drawn(5, 7, 503), 0);
        x.set(2, 0);
        x.live();
        Tally.due("32: CLOTHS ahead were never OUT", x.drawn(0, 3, 2), 2);
    }

    /** By the rule 0 is taken and doesn't yellow; from the top 1 is, and 0 goes to CLOTHS. */
    private static void odds() {
        AlwaysTheTopTwo x = Made.ruled(Made.of(0, 0, 0, 0), 1, 0, 1, 1);
        x.put(0, 1, 98);
        // The first LOTS of SEED 0 .. 5 modulo 100: 71, 42, 13, 84, 55, 26.
        due(x, 0, 650, 1, 2);
        due(x, 0, 450, 1, 2);
        due(x, 0, 350, 1, 3);
        due(x, 0, 660, 1, 3);
        due(x, 1, 260, 0, 1);
        due(x, 3, 260, 1, 2);
        due(x, 0, 685, 0, 1);
        due(x, 0, 699, 0, 1);
        due(x, 0, 600, 1, 1);
        due(x, 0, 100, 1, 1);
        due(x, 0, 199, 0, 1);
        due(x, 0, 3000, 1, 1);
        due(x, 0, 586, 0, 1);
        due(x, 0, 543, 3, 5);
        for (int v : new int[] {-1, 100000, MIN, MAX}) {
            Tally.due("33: SEED " + v, x.odds(v, 1, 150, 0), AlwaysTheTopTwo.NO);
        }
        for (int v : new int[] {-1, 201, MIN, MAX}) {
            Tally.due("33: n " + v, x.odds(0, v, 150, 0), AlwaysTheTopTwo.NO);
        }
        for (int v : new int[] {-1, 0, 99, -150, 3100, MIN, MAX}) {
            Tally.due("33: seedsOdds " + v, x.odds(0, 1, v, 0), AlwaysTheTopTwo.NO);
        }
        for (int v : new int[] {-1, 2, MIN, MAX}) {
            Tally.due("33: part " + v, x.odds(0, 1, 150, v), AlwaysTheTopTwo.NO);
        }
        Tally.due("33: or more", more(), 1);
        Tally.due("33: it changes nothing", x.told(0, 3), 98);
    }

    /** By the rule the lowest is taken and goes to CLOTHS, from the top the other one is and stays. */
    private static long more() {
        return Made.ruled(Made.of(0, 399, 0, 0), 1, 0, 1, 1).odds(0, 1, 650, 0);
    }

    private static void due(AlwaysTheTopTwo x, int seed, int seedsOdds, long above, long below) {
        Tally.due("33: odds(" + seed + ", 1, " + seedsOdds + ", 0)", x.odds(seed, 1, seedsOdds, 0), above);
        Tally.due("33: odds(" + seed + ", 1, " + seedsOdds + ", 1)", x.odds(seed, 1, seedsOdds, 1), below);
    }

    private static void image() {
        AlwaysTheTopTwo x = new AlwaysTheTopTwo();
        Tally.due("34: of none", x.image(), 0);
        x.buy(0, 0);
        x.buy(0, 395);
        x.set(0, 1);
        x.live();
        Tally.due("34: CLOTHS, too", x.image(), 2);
        x.buy(0, 0);
        Tally.due("34: another one", x.image(), 3);
        Tally.due("35: the last one", x.back(), 3);
    }

    private static void back() {
        AlwaysTheTopTwo x = Made.ruled(Made.of(14, 100, 23, 60, 0, 395), 1, 2, 0, 1);
        Tally.due("35: STATE", x.back(), -3);
        x.live();
        x.turn(0);
        x.live();
        long[] ahead = all(x);
        x.image();
        Made.text(x, "wears 1;yellows 1;costs 1;");
        x.force(1);
        Made.ruled(x, 3, 0, 2, 2);
        x.buy(55, 9);
        x.turn(1);
        x.put(0, 0, 9);
        x.put(0, 1, 9);
        x.put(0, 2, 9);
        x.live();
        x.pileUp(3);
        Made.tell(x, 3, 4, 5);
        x.feed(2, 65, 65, 0, 0, 0);
        Tally.due("35: how many", x.back(), 3);
        long[] behind = all(x);
        for (int k = 0; k < ahead.length; k++) {
            Tally.due("35: kept " + k, behind[k], ahead[k]);
        }
        Tally.due("35: LINEN that came since is none", x.told(3, 0), -5);
        Tally.due("35: TEXTS are not kept", x.count(7), 2);
        Tally.due("35: THE TAPE is not kept", x.count(9), 2);
        Tally.due("35: SHEETS are not kept", x.cell(3, 1, 5), 1);
        Tally.due("35: the number is free", x.buy(38, 7), 3);
        int[] fresh = {3, 8, 7, 0, 0, 0, 0, 480};
        for (int what = 0; what < 8; what++) {
            Tally.due("35: it comes as any", x.told(3, what), fresh[what]);
        }
        x.live();
        Tally.due("35: once more", x.back(), 3);
        Tally.due("35: it is as it was", all(x)[0], ahead[0]);
    }

    /** All that AN IMAGE keeps. */
    private static long[] all(AlwaysTheTopTwo x) {
        long[] all = new long[9 + 8 * 3];
        all[0] = Made.pile(x);
        for (int what = 0; what < 7; what++) {
            all[1 + what] = x.count(what);
        }
        all[8] = x.count(8);
        for (int i = 0; i < 3; i++) {
            for (int what = 0; what < 8; what++) {
                all[9 + 8 * i + what] = x.told(i, what);
            }
        }
        return all;
    }
}
