/** Promises 8 to 15: LINEN, THE PILE, and one WEEK of each KIND. */
final class LinenTest {
    private static final int MIN = Integer.MIN_VALUE;
    private static final int MAX = Integer.MAX_VALUE;

    private LinenTest() {
    }

    static void tests() {
        buy();
        layings();
        told();
        lasts();
        put();
        lies();
        turn();
        next();
        pileUp();
        live();
        order();
        wearsOfKinds();
        yellowsOfKinds();
        cloths();
        limits();
    }

    private static void buy() {
        AlwaysTheTopTwo x = new AlwaysTheTopTwo();
        for (int v : new int[] {-1, 60, 99, MIN, MAX}) {
            Tally.due("8: kindMore " + v, x.buy(v, 0), -2);
        }
        for (int v : new int[] {-1, 1000, MIN, MAX}) {
            Tally.due("8: worn " + v, x.buy(0, v), -2);
        }
        Tally.due("8: none came", x.count(0), 0);
        int[] kindMore = {59, 0, 34, 12, 20, 45, 9, 50};
        for (int i = 0; i < 8; i++) {
            Tally.due("8: its number", x.buy(kindMore[i], 999 - i), i);
            Tally.due("8: its KIND", x.told(i, 0), kindMore[i] / 10);
            Tally.due("8: its MORE", x.told(i, 1), kindMore[i] % 10);
            Tally.due("8: its WORN", x.told(i, 2), 999 - i);
            for (int what = 3; what < 7; what++) {
                Tally.due("8: as it comes " + what, x.told(i, what), 0);
            }
        }
        Tally.due("8: FULL", x.buy(0, 0), -4);
        Tally.due("8: BAD ahead of FULL", x.buy(60, 0), -2);
        Tally.due("8: eight", x.count(0), 8);
        AlwaysTheTopTwo y = Made.ruled(Made.of(0, 400, 0, 399), 2, 0, 0, 0);
        y.live();
        Tally.due("8: bought WORN as CLOTHS are, it lies until it is washed", y.count(1), 0);
        Tally.due("8: CLOTHS keep their number", y.buy(0, 0), 2);
    }

    private static void layings() {
        Tally.due("8: on the top", Made.pile(laid(0)), 1210);
        Tally.due("8: below all", Made.pile(laid(1)), 1012);
        AlwaysTheTopTwo x = Made.of(0, 0, 0, 0, 0, 0);
        x.set(3, 2);
        // 2, 1 and 0 lie from the top on, and all are less than 3.
        x.buy(0, 0);
        Tally.due("8: below those whose numbers are less", Made.pile(x), 12103);
        AlwaysTheTopTwo y = Made.ruled(Made.of(0, 5, 0, 1, 0, 9, 0, 7), 1, 0, 2, 2);
        Tally.due("8: as they lie", Made.pile(y), 13210);
        y.live();
        Tally.due("8: 1 was taken, and 3 on the top is not less", Made.pile(y), 11320);
        y.set(2, 3);
        y.put(0, 2, 50);
        y.live();
        Tally.due("8: 0 goes on the top", Made.pile(y), 10132);
        y.put(2, 2, 60);
        y.live();
        Tally.due("8: 2 goes below 0 and 1, as long as they are", Made.pile(y), 10123);
    }

    private static AlwaysTheTopTwo laid(int how) {
        AlwaysTheTopTwo x = new AlwaysTheTopTwo();
        x.set(3, how);
        for (int k = 0; k < 3; k++) {
            x.buy(0, 0);
        }
        return x;
    }

    private static void told() {
        AlwaysTheTopTwo x = Made.of(34, 20, 0, 395);
        for (int i : new int[] {-1, 2, 8, MIN, MAX}) {
            Tally.due("9: told " + i, x.told(i, 0), -5);
            Tally.due("9: LINEN ahead of what", x.told(i, 9), -5);
        }
        for (int what : new int[] {-1, 8, MIN, MAX}) {
            Tally.due("9: what " + what, x.told(0, what), -7);
        }
        x.set(0, 1);
        x.set(1, 3);
        x.live();
        int[] lying = {3, 4, 20, 2, 1, 0, 0, 440};
        int[] gone = {0, 0, 405, 0, 0, 0, -1, 400};
        for (int what = 0; what < 8; what++) {
            Tally.due("9: of one that lay " + what, x.told(0, what), lying[what]);
            Tally.due("9: of CLOTHS " + what, x.told(1, what), gone[what]);
        }
        x.turn(0);
        Tally.due("9: TURNED", x.told(0, 5), 1);
        x.live();
        Tally.due("9: AWAY", x.told(0, 6), 3);
        x.live();
        Tally.due("9: AWAY one less", x.told(0, 6), 2);
    }

    private static void lasts() {
        int[] lasts = {400, 400, 340, 430, 440, 180};
        int[] most = {400, 400, 220, 490, 320, 240};
        for (int kind = 0; kind < 6; kind++) {
            Tally.due("9: LASTS of " + kind + ", MORE 3", Made.of(10 * kind + 3, 0).told(0, 7), lasts[kind]);
            Tally.due("9: LASTS of " + kind + ", MORE 9", Made.of(10 * kind + 9, 0).told(0, 7), most[kind]);
        }
        Tally.due("9: LASTS of a COT, MORE 0", Made.of(50, 0).told(0, 7), 150);
        Tally.due("9: LASTS of a DARNED, MORE 0", Made.of(40, 0).told(0, 7), 500);
    }

    private static void put() {
        int[] most = {999, 99, 999};
        for (int what = 0; what < 3; what++) {
            AlwaysTheTopTwo x = Made.of(0, 0, 0, 0);
            Tally.due("10: what it was", x.put(1, what, most[what]), 0);
            Tally.due("10: too much", x.put(1, what, most[what] + 1), -7);
            Tally.due("10: too little", x.put(1, what, -1), -7);
            Tally.due("10: far off", x.put(1, what, MIN), -7);
            Tally.due("10: then", x.put(1, what, 7), most[what]);
            Tally.due("10: it became", x.told(1, 2 + what), 7);
            Tally.due("10: 0", x.put(1, what, 0), 7);
            Tally.due("10: it became 0", x.told(1, 2 + what), 0);
            Tally.due("10: not the other one", x.told(0, 2 + what), 0);
            for (int i : new int[] {-1, 2, MIN, MAX}) {
                Tally.due("10: LINEN " + i, x.put(i, what, 0), -5);
                Tally.due("10: LINEN ahead of what, v", x.put(i, 9, -9), -5);
            }
        }
        AlwaysTheTopTwo x = Made.of(0, 0);
        for (int what : new int[] {-1, 3, MIN, MAX}) {
            Tally.due("10: what " + what, x.put(0, what, 0), -7);
        }
    }

    private static void lies() {
        AlwaysTheTopTwo x = Made.of(0, 0, 0, 0, 0, 0);
        int[] places = {2, 1, 0};
        for (int place = 0; place < 3; place++) {
            Tally.due("11: from the top", x.lies(place), places[place]);
        }
        for (int place : new int[] {-1, 3, 8, MIN, MAX}) {
            Tally.due("11: place " + place, x.lies(place), -6);
        }
        x.live();
        Tally.due("11: those in the wash lie no longer", x.lies(0), 0);
        Tally.due("11: none behind it", x.lies(1), -6);
    }

    private static void turn() {
        AlwaysTheTopTwo x = Made.of(0, 101, 0, 40, 0, 7);
        Tally.due("12: half, cut", x.turn(0), 50);
        Tally.due("12: it is", x.told(0, 5), 1);
        Tally.due("12: WORN", x.told(0, 2), 50);
        Tally.due("12: once", x.turn(0), -3);
        Tally.due("12: that changed nothing", x.told(0, 2), 50);
        for (int i : new int[] {-1, 3, MIN, MAX}) {
            Tally.due("12: LINEN " + i, x.turn(i), -5);
        }
        x.live();
        Tally.due("12: not in the wash", x.turn(1), -3);
        Tally.due("12: that changed nothing either", x.told(1, 5), 0);
        AlwaysTheTopTwo y = Made.of(0, 399);
        y.live();
        Tally.due("12: not CLOTHS", y.turn(0), -3);
        Tally.due("12: it lies where it lay", Made.pile(Made.of(0, 0, 0, 0)), 110);
    }

    private static void next() {
        AlwaysTheTopTwo x = Made.of(0, 30, 0, 10, 0, 20, 0, 10);
        x.put(0, 2, 5);
        x.put(1, 2, 8);
        x.put(2, 2, 8);
        int[] due = {3, 0, 3, 2};
        for (int how = 0; how < 4; how++) {
            x.set(2, how);
            Tally.due("13: TAKEN " + how, x.next(), due[how]);
        }
        Tally.due("13: it still lies", x.count(1), 4);
        x.set(0, 8);
        x.live();
        Tally.due("13: though they come back first, THE PILE is empty now", x.next(), -1);
    }

    private static void pileUp() {
        int[] worn = {0, 30, 0, 10, 0, 20, 0, 10};
        AlwaysTheTopTwo x = Made.of(worn);
        Tally.due("14: the least WORN", x.pileUp(0), 3);
        Tally.due("14: of like ones as they lay", Made.pile(x), 13120);
        AlwaysTheTopTwo y = Made.of(worn);
        Tally.due("14: the most WORN", y.pileUp(1), 0);
        Tally.due("14: of like ones as they lay, too", Made.pile(y), 10231);
        AlwaysTheTopTwo z = Made.of(worn);
        Tally.due("14: by numbers", z.pileUp(2), 0);
        Tally.due("14: all by numbers", Made.pile(z), 10123);
        Tally.due("14: turned over", z.pileUp(3), 3);
        Tally.due("14: all turned over", Made.pile(z), 13210);
        Tally.due("14: none is TURNED by it", z.told(3, 5), 0);
        z.buy(0, 0);
        z.pileUp(0);
        Tally.due("14: turned over, five", z.pileUp(3), 0);
        Tally.due("14: all five", Made.pile(z), 102134);
        for (int how : new int[] {-1, 4, MIN, MAX}) {
            Tally.due("14: how " + how, z.pileUp(how), -2);
        }
        for (int how = 0; how < 4; how++) {
            Tally.due("14: none lies", new AlwaysTheTopTwo().pileUp(how), -1);
            Tally.due("14: one lies", Made.of(0, 0).pileUp(how), 0);
        }
        z.set(0, 3);
        z.live();
        z.pileUp(2);
        Tally.due("14: those that lie alone", Made.pile(z), 134);
    }

    private static void live() {
        AlwaysTheTopTwo x = Made.ruled(Made.of(0, 0, 0, 0, 0, 0), 2, 2, 0, 0);
        Tally.due("15: two of three", x.live(), 0);
        Tally.due("15: THE WEEK", x.count(6), 1);
        Tally.due("15: one lies", Made.pile(x), 10);
        Tally.due("15: WORN", x.told(2, 2), 10);
        Tally.due("15: it yellowed", x.told(0, 3), 1);
        Tally.due("15: it has LAIN", x.told(0, 4), 1);
        Tally.due("15: one is TOO FEW", x.live(), 1);
        Tally.due("15: two came back", x.live(), 0);
        Tally.due("15: 0 is still away", x.told(0, 6), 1);
        Tally.due("15: its LAIN is 0", x.told(0, 4), 0);
        Tally.due("15: its YELLOW stays", x.told(0, 3), 1);
        Tally.due("15: THE WEEK then", x.count(6), 3);
        AlwaysTheTopTwo y = new AlwaysTheTopTwo();
        y.set(0, 8);
        Tally.due("15: eight TOO FEW", y.live(), 8);
        y.set(0, 0);
        Tally.due("15: none wanted", y.live(), 0);
        AlwaysTheTopTwo z = new AlwaysTheTopTwo();
        for (int k = 0; k < 500; k++) {
            z.live();
        }
        Tally.due("15: as far as an object is used", z.count(6), 500);
        // What an object answers behind its 512th call is free; THE WEEK ends all the same.
        for (int k = 500; k < 999; k++) {
            z.live();
        }
        Tally.due("15: FULL", z.live(), -4);
        Tally.due("15: THE LAST WEEK", z.count(6), 999);
    }

    /** What comes ahead of what in A WEEK. */
    private static void order() {
        AlwaysTheTopTwo x = Made.ruled(Made.of(0, 0, 0, 0), 2, 1, 0, 0);
        x.live();
        x.set(0, 0);
        x.live();
        Tally.due("2: they come back by numbers", Made.pile(x), 110);
        Tally.due("2: what came back yellows the same week", x.told(0, 3), 1);
        AlwaysTheTopTwo y = Made.ruled(Made.of(0, 0, 0, 0, 0, 0), 2, 0, 0, 1);
        y.live();
        Tally.due("2: without a wash they are laid by numbers", Made.pile(y), 1012);
        Tally.due("2: and did not lie that week", y.told(1, 4), 0);
        AlwaysTheTopTwo z = Made.ruled(Made.of(0, 0, 0, 0, 0, 0), 1, 0, 0, 0);
        z.set(0, 3);
        z.live();
        Tally.due("2: each is TAKEN but once a week", z.told(2, 2), 10);
        AlwaysTheTopTwo v = Made.byLaw(Made.of(0, 100), "wears worn+lain;yellows worn+lain;costs 0;");
        v.put(0, 0, 10);
        v.put(0, 2, 3);
        v.set(0, 0);
        v.live();
        Tally.due("2: it yellows by LAIN ahead of the week", v.told(0, 3), 13);
        v.set(0, 1);
        v.live();
        Tally.due("2: WORN and LAIN as they are ahead of the wash", v.told(0, 2), 10 + 10 + 4);
        AlwaysTheTopTwo w = Made.byLaw(Made.of(9, 0, 9, 0), "wears week*10+wanted+more;yellows turned+week;costs 0;");
        w.set(0, 1);
        w.turn(0);
        w.live();
        w.live();
        Tally.due("2: week, wanted and more", w.told(1, 2), 0 + 1 + 9 + 10 + 1 + 9);
        Tally.due("2: turned and week", w.told(0, 3), 1 + 1 + 1);
    }

    private static void wearsOfKinds() {
        // So much a wash of 9 WEARS, of MORE 5, being WORN 100, 200, 201.
        int[][] due = {{9, 9, 9}, {7, 7, 7}, {9, 9, 14}, {7, 7, 7}, {11, 11, 16}, {4, 4, 4}};
        int[] worn = {100, 200, 201};
        for (int kind = 0; kind < 6; kind++) {
            for (int k = 0; k < 3; k++) {
                AlwaysTheTopTwo x = Made.byLaw(Made.of(10 * kind + 5, worn[k]), "wears 9;yellows 0;costs 0;");
                x.live();
                Tally.due("KINDS: a wash of " + kind + ", WORN " + worn[k], x.told(0, 2) - worn[k], due[kind][k]);
            }
        }
        AlwaysTheTopTwo x = Made.byLaw(Made.of(19, 50, 38, 50), "wears 3;yellows 0;costs 0;");
        x.live();
        Tally.due("KINDS: a FINE WEARS 0 at least", x.told(0, 2), 50);
        Tally.due("KINDS: a WEDDING WEARS 0 at least", x.told(1, 2), 50);
    }

    private static void yellowsOfKinds() {
        // So much a week of 4 YELLOWS, having LAIN 0, 10, 11.
        int[][] due = {{4, 4, 4}, {5, 5, 5}, {4, 4, 4}, {5, 5, 10}, {4, 4, 4}, {4, 4, 4}};
        int[] lain = {0, 10, 11};
        for (int kind = 0; kind < 6; kind++) {
            for (int k = 0; k < 3; k++) {
                AlwaysTheTopTwo x = Made.byLaw(Made.of(10 * kind + 5, 0), "wears 0;yellows 4;costs 0;");
                x.set(0, 0);
                x.put(0, 2, lain[k]);
                x.live();
                Tally.due("KINDS: a week of " + kind + ", LAIN " + lain[k], x.told(0, 3), due[kind][k]);
            }
        }
        AlwaysTheTopTwo x = Made.byLaw(Made.of(0, 0, 10, 0), "wears 0;yellows 3-5;costs 0;");
        x.set(0, 0);
        x.live();
        Tally.due("KINDS: the text's bound", x.told(0, 3), 0);
        Tally.due("KINDS: a FINE YELLOWS 1 more than the bound", x.told(1, 3), 1);
    }

    private static void cloths() {
        AlwaysTheTopTwo x = Made.ruled(Made.of(0, 389, 0, 390), 2, 0, 0, 0);
        x.live();
        Tally.due("2: WORN less than LASTS", x.told(0, 6), 0);
        Tally.due("2: WORN as much as LASTS", x.told(1, 6), -1);
        Tally.due("2: CLOTHS don't lie", Made.pile(x), 10);
        Tally.due("2: and are TOO FEW", x.live(), 1);
        AlwaysTheTopTwo y = Made.ruled(Made.of(0, 0, 0, 0, 0, 0), 0, 1, 0, 0);
        y.put(1, 1, 98);
        y.put(2, 1, 97);
        y.live();
        Tally.due("2: YELLOW 99", y.told(1, 6), -1);
        Tally.due("2: its YELLOW", y.told(1, 3), 99);
        Tally.due("2: its LAIN stays", y.told(1, 4), 1);
        Tally.due("2: the others lie on", Made.pile(y), 120);
        y.live();
        Tally.due("2: the next week the next", Made.pile(y), 10);
        y.put(0, 1, 99);
        y.set(0, 1);
        y.live();
        Tally.due("2: not while it is in the wash", y.told(0, 6), 1);
        y.live();
        y.set(1, 0);
        y.live();
        Tally.due("2: but as soon as it is laid", y.told(0, 6), -1);
        AlwaysTheTopTwo z = Made.ruled(Made.of(0, 395), 1, 3, 0, 0);
        for (int k = 0; k < 6; k++) {
            z.live();
        }
        Tally.due("2: CLOTHS never come back from the wash", z.count(1), 0);
        Tally.due("2: and are CLOTHS still", z.told(0, 6), -1);
    }

    private static void limits() {
        AlwaysTheTopTwo x = Made.byLaw(Made.of(0, 950), "wears 99;yellows 99;costs 0;");
        AlwaysTheTopTwo y = Made.byLaw(Made.of(0, 0), "wears 0;yellows 0;costs 0;");
        y.put(0, 2, 998);
        y.set(0, 0);
        y.live();
        y.live();
        Tally.due("2: LAIN 999 at most", y.told(0, 4), 999);
        x.live();
        Tally.due("2: WORN 999 at most", x.told(0, 2), 999);
        AlwaysTheTopTwo z = Made.byLaw(Made.of(30, 0), "wears 0;yellows 99;costs 0;");
        z.set(0, 0);
        z.live();
        Tally.due("2: YELLOW 99 at most", z.told(0, 3), 99);
    }
}
