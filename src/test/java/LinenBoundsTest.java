/** The bounds that the Terms and promises 1 to 15 name: empty, full, the last that fits, the first that doesn't. */
final class LinenBoundsTest {
    private static final int MIN = Integer.MIN_VALUE;
    private static final int MAX = Integer.MAX_VALUE;
    private static final String TEXT = "wears 1;yellows 1;costs 1;";

    private LinenBoundsTest() {
    }

    static void tests() {
        nothingYet();
        tapeToItsLastByte();
        faultsAtTheLastByte();
        theLastText();
        truthIsOneOrNothing();
        anIntWraps();
        whatATextSaysIsBounded();
        kindsAtTheirEdges();
        eightInThePile();
        eightTaken();
        eightLaid();
        threeWeeksAway();
        washLeastAndMost();
        gone();
        turning();
        putAndLast();
    }

    /** Eight PLAIN, by numbers from the top, so that the last number lies at the last place. */
    private static AlwaysTheTopTwo eight() {
        AlwaysTheTopTwo x = Made.of(0, 0, 0, 0, 0, 0, 0, 0, 0, 0, 0, 0, 0, 0, 0, 0);
        x.pileUp(2);
        return x;
    }

    private static AlwaysTheTopTwo byLaw(String wears, String yellows, String costs, int... pairs) {
        return Made.byLaw(Made.of(pairs), "wears " + wears + ";yellows " + yellows + ";costs " + costs + ";");
    }

    private static void nothingYet() {
        AlwaysTheTopTwo x = new AlwaysTheTopTwo();
        Tally.due("1: nothing to put", x.put(0, 0, 0), -5);
        Tally.due("1: nothing lies", x.lies(0), -6);
        Tally.due("1: nothing to turn", x.turn(0), -5);
        Tally.due("1: nothing in thought", x.then(0, 0, 0), -5);
        Tally.due("1: nothing to turn once", x.when(0, 1, 0), -5);
        Tally.due("1: nothing to take", x.taken(0, 0), -11);
        Tally.due("1: no WORN", x.taken(8, 6), -11);
        Tally.due("1: no IMAGE", x.back(), -3);
        for (int s = 0; s < 4; s++) {
            Tally.due("1: SHEET " + s + " is missing: cell", x.cell(s, 0, 0), -11);
            Tally.due("1: SHEET " + s + " is missing: judge", x.judge(s, 0), -11);
            Tally.due("1: SHEET " + s + " is missing: copy", x.copy(s, 0, s, 0, 0), -11);
            Tally.due("1: SHEET " + s + " is missing: buyBy", x.buyBy(s, 0, 0, 0), -11);
        }
        Tally.due("5: an empty TAPE ends too early", x.text(), -100);
        Tally.due("5: so it does again", x.text(), -100);
        Tally.due("6: THE LAW is TEXT 0", x.force(0), 0);
        for (int t : new int[] {MIN, -1, 1, 5, 6, MAX}) {
            Tally.due("6: TEXT " + t, x.force(t), -2);
        }
    }

    private static void tapeToItsLastByte() {
        for (int n = 1; n <= 5; n++) {
            AlwaysTheTopTwo x = new AlwaysTheTopTwo();
            Tally.due("4: the first " + n, x.feed(n, 32, 32, 32, 32, 32), n);
            Tally.due("4: no more than " + n, x.count(9), n);
            Tally.due("4: a byte of 0", x.feed(1, 0, 0, 0, 0, 0), n + 1);
            Tally.due("4: behind them", x.text(), -100 - n);
            AlwaysTheTopTwo y = new AlwaysTheTopTwo();
            Made.feed(y, " ".repeat(160 - n));
            Tally.due("4: " + n + " have just room", y.feed(n, 255, 255, 255, 255, 255), 160);
            AlwaysTheTopTwo z = new AlwaysTheTopTwo();
            Made.feed(z, " ".repeat(161 - n));
            Tally.due("4: " + n + " have not all room", z.feed(n, 32, 32, 32, 32, 32), -4);
            Tally.due("4: so none comes", z.count(9), 161 - n);
        }
        AlwaysTheTopTwo x = new AlwaysTheTopTwo();
        String last = TEXT.substring(0, 25) + " ".repeat(134) + ";";
        Tally.due("5: the last ; is byte 159", Made.text(x, last), 1);
        Tally.due("5: then THE TAPE has room again", x.feed(5, 32, 32, 32, 32, 32), 5);
        String right = "\nwears 7 ;\nyellows 8;\ncosts not 8*0+worn < 0;";
        AlwaysTheTopTwo y = Made.byLaw(new AlwaysTheTopTwo(), " ".repeat(160 - right.length()) + right);
        Tally.due("5: read up to its last byte", y.asks(2, 0, 0, 0), 1);
        Tally.due("5: and from its first", y.asks(0, 0, 0, 0), 7);
    }

    private static void faultsAtTheLastByte() {
        fault("160 blanks", " ".repeat(160), 160);
        fault("a KEY and blanks", "wears" + " ".repeat(155), 160);
        fault("ends in an E", TEXT.substring(0, 25) + " ".repeat(135), 160);
        fault("a word at byte 159", TEXT + " ".repeat(133) + "w", 159);
        fault("a ; at byte 159", TEXT + " ".repeat(133) + ";", 159);
        fault("one WORD", "w".repeat(160), 0);
        fault("one NUMBER", "wears " + "1".repeat(154), 6);
        fault("one NUMBER of nothings", "wears " + "0".repeat(154), 6);
        fault("signs", "wears " + "-".repeat(154), 11);
        fault("a NUMBER of four, at the end", "wears 1234", 10);
        fault("a NUMBER of five, at the end", "wears 12345", 6);
        fault("a NAME at the end", "wears worn", 10);
        fault("less than a NAME at the end", "wears wor", 6);
        fault("a KEY at the end", "wear", 0);
    }

    private static void fault(String what, String text, int place) {
        AlwaysTheTopTwo x = new AlwaysTheTopTwo();
        Tally.due("5: " + what, Made.text(x, text), -100 - place);
        Tally.due("5: THE TAPE is empty behind " + what, x.count(9), 0);
    }

    private static void theLastText() {
        AlwaysTheTopTwo x = Made.ruled(Made.of(0, 0), 1, 0, 0, 0);
        for (int t = 1; t < 5; t++) {
            Made.text(x, TEXT);
        }
        Tally.due("5: a FAULT leaves room", Made.text(x, "wears 99;yellows 99;costs 99"), -128);
        Tally.due("5: the last TEXT", Made.text(x, "wears 7;yellows 8+" + "1+".repeat(50) + "1;costs 9;"), 5);
        Tally.due("5: FULL, though THE TAPE is empty", x.text(), -4);
        Tally.due("6: no TEXT 6", x.force(6), -2);
        Tally.due("6: the last one", x.force(5), 0);
        Tally.due("7: it wears", x.asks(0, 0, 0, 0), 7);
        Tally.due("7: it yellows", x.asks(1, 0, 0, 0), 59);
        Tally.due("7: it costs", x.asks(2, 0, 0, 0), 9);
        Tally.due("6: which was the last one", x.force(0), 5);
        Made.tell(x, 0, 7);
        Tally.due("30: the last one", x.laws(0, 1), 1 << 5);
    }

    /** Of or, and, not, < and = there comes 1 or 0, and what is not 0 is true; 5 more, for below 0 there is a bound. */
    private static void truthIsOneOrNothing() {
        String[] nothing = {"0 or 0", "0 and 0", "7 and 0", "0 and 7", "not 1", "not 7", "not -1", "2 < 1", "1 < 1",
            "1 = 2", "-1 = 1"};
        String[] one = {"0 or 7", "7 or 0", "7 or 7", "0 or -1", "7 and 9", "-1 and -2", "not 0", "1 < 2", "-2 < -1",
            "2 = 2", "-1 = 0-1"};
        for (String e : nothing) {
            says("5+(" + e + ")", 5);
        }
        for (String e : one) {
            says("5+(" + e + ")", 6);
        }
    }

    /** 9999 times 9999 times 21 is 2099580021; 47903627 more is 2147483648, one more than an int holds. */
    private static void anIntWraps() {
        says("9999*9999*21+9999*4790+8416 < 0", 0);
        says("9999*9999*21+9999*4790+8417 < 0", 1);
        says("-9999*9999*21-9999*4790-8417 < 0", 1);
        says("-9999*9999*21-9999*4790-8418 < 0", 0);
        says("9999*9999*21+9999*4790+8417 = -9999*9999*21-9999*4790-8417", 1);
        says("-(9999*9999*21+9999*4790+8417) < 0", 1);
        says("-(9999*9999*21+9999*4790+8416) < 0", 1);
        says("-9999*9999*21 < 9999*9999*21", 1);
        says("9999*9999*21 < -9999*9999*21", 0);
        says("8192*8192*64", 0);
        says("8192*8192*64+5", 5);
        says("8192*8192*32 < 0", 1);
        says("not 8192*8192*64", 1);
        says("9999*9999*21+9999*4790+8416", 99);
        says("9999*9999*21+9999*4790+8417", 0);
    }

    private static void says(String e, int want) {
        Tally.due("7: wears " + e, byLaw(e, "0", "0").asks(0, 0, 0, 0), want);
        Tally.due("7: yellows " + e, byLaw("0", e, "0").asks(1, 0, 0, 0), want);
        Tally.due("7: costs " + e, byLaw("0", "0", e).asks(2, 0, 0, 0), want);
    }

    private static void whatATextSaysIsBounded() {
        says("0", 0);
        says("-1", 0);
        says("99", 99);
        says("100", 99);
        AlwaysTheTopTwo x = byLaw("100", "0", "100", 0, 0);
        Tally.due("17: a wash by 99 at most", x.then(0, 1, 0), 99);
        Tally.due("18: costs 99 at most", new AlwaysTheTopTwo().cost(1) + Made.byLaw(new AlwaysTheTopTwo(),
            "wears 0;yellows 0;costs 100;").cost(1), 2 * 50 + 2 * 99);
        AlwaysTheTopTwo y = byLaw("-1", "-1", "-1", 0, 5, 0, 5, 0, 5);
        y.put(0, 1, 5);
        Tally.due("17: a wash by 0 at least", y.then(2, 1, 0), 5);
        Tally.due("17: a week by 0 at least", y.then(0, 1, 1), 5);
        y.set(0, 8);
        Tally.due("18: costs 0 at least", y.cost(1), 0);
        AlwaysTheTopTwo z = byLaw("100", "0", "0", 49, 201);
        z.live();
        Tally.due("KINDS: a DARNED WEARS 9 and 2 more than the bound", z.told(0, 2), 201 + 99 + 9 + 2);
        // No LINEN is meant by costs, so it says 1 where a LINEN stands that has all of these.
        AlwaysTheTopTwo v = byLaw("0", "0", "not worn and not lain and not more and not turned", 9, 500);
        v.put(0, 2, 3);
        v.turn(0);
        v.set(0, 2);
        Tally.due("18: worn, lain, more, turned are 0", v.cost(1), 1);
    }

    private static void kindsAtTheirEdges() {
        // WEARS of a wash of 1, YELLOWS of a week of 0, LASTS; of MORE 0, 1, 9; being WORN 201, having LAIN 11.
        int[][][] due = {
            {{1, 0, 400}, {1, 0, 400}, {1, 0, 400}}, {{1, 1, 400}, {1, 1, 400}, {0, 1, 400}},
            {{1, 0, 400}, {2, 0, 380}, {10, 0, 220}}, {{1, 2, 400}, {1, 2, 410}, {0, 2, 490}},
            {{3, 0, 500}, {4, 0, 480}, {12, 0, 320}}, {{0, 0, 150}, {0, 0, 160}, {0, 0, 240}},
        };
        int[] more = {0, 1, 9};
        for (int kind = 0; kind < 6; kind++) {
            for (int k = 0; k < 3; k++) {
                AlwaysTheTopTwo x = byLaw("1", "0", "0", 10 * kind + more[k], 201);
                String of = " of " + kind + ", MORE " + more[k];
                x.put(0, 2, 11);
                x.set(0, 0);
                Tally.due("KINDS: YELLOWS" + of, x.then(0, 1, 1), due[kind][k][1]);
                x.set(0, 1);
                Tally.due("KINDS: WEARS" + of, x.then(0, 1, 0) - 201, due[kind][k][0]);
                Tally.due("KINDS: LASTS" + of, x.told(0, 7), due[kind][k][2]);
            }
        }
        // Of each KIND, MORE 9: a wash that ends 1 below LASTS leaves it, one that ends at LASTS makes CLOTHS of it.
        int[] wash = {10, 6, 19, 6, 21, 5};
        int[] lasts = {400, 400, 220, 490, 320, 240};
        for (int kind = 0; kind < 6; kind++) {
            int ends = lasts[kind] - wash[kind];
            Tally.due("2: 1 below LASTS, KIND " + kind, Made.of(10 * kind + 9, ends - 1).run(1, 0), 1);
            Tally.due("2: at LASTS, KIND " + kind, Made.of(10 * kind + 9, ends).run(1, 0), 0);
            Tally.due("2: above LASTS, KIND " + kind, Made.of(10 * kind + 9, ends + 1).run(1, 0), 0);
        }
    }

    private static void eightInThePile() {
        AlwaysTheTopTwo x = eight();
        Tally.due("11: the eighth place", x.lies(7), 7);
        Tally.due("11: no ninth", x.lies(8), -6);
        Tally.due("40: LINEN at the eighth place", x.taken(7, 0), 7);
        x.put(7, 0, 33);
        Tally.due("40: WORN of the eighth", x.taken(15, 6), 33);
        x.put(7, 0, 0);
        x.image();
        x.set(0, 8);
        Tally.due("15: eight for eight", x.live(), 0);
        Tally.due("15: none lies", x.count(1), 0);
        Tally.due("13: none is next", x.next(), -1);
        Tally.due("15: all come back and go", x.live(), 0);
        Tally.due("35: eight", x.back(), 8);
        Tally.due("35: eight as they lay", Made.pile(x), 101234567L);
        Tally.due("14: turned over", x.pileUp(3), 7);
        Tally.due("14: eight turned over", Made.pile(x), 176543210L);
        x.put(0, 0, 9);
        Tally.due("14: the most WORN from the lowest place", x.pileUp(1), 0);
        Tally.due("14: the others as they lay", Made.pile(x), 107654321L);
        Tally.due("14: the least WORN", x.pileUp(0), 7);
        Tally.due("14: eight, the most WORN below", Made.pile(x), 176543210L);
        Tally.due("14: by numbers", x.pileUp(2), 0);
        Tally.due("14: eight by numbers", Made.pile(x), 101234567L);
        Tally.due("8: FULL with all eight lying", x.buy(0, 0), -4);
        Tally.due("8: BAD ahead of FULL", x.buy(0, 1000), -2);
        Tally.due("39: all left out", buyAgain(x), 0);
    }

    private static int buyAgain(AlwaysTheTopTwo x) {
        x.sheet(0, 2, 16);
        return x.buyBy(0, 2, 0, 8);
    }

    private static void eightTaken() {
        for (int how = 0; how < 4; how++) {
            AlwaysTheTopTwo x = Made.ruled(eight(), 1, 1, how, 0);
            Tally.due("TAKEN " + how + ": of like ones", x.next(), how == 1 ? 7 : 0);
            Tally.due("TAKEN " + how + ": in thought", x.run(1, 3), how == 1 ? 128 : 1);
            for (int i = 0; i < 7; i++) {
                x.put(i, 0, 5);
            }
            x.put(7, 2, 5);
            Tally.due("TAKEN " + how + ": of the last place", x.next(), how == 0 ? 0 : 7);
            Tally.due("TAKEN " + how + ": of the last place, in thought", x.run(1, 3), how == 0 ? 1 : 128);
            x.live();
            Tally.due("TAKEN " + how + ": seven lie on", Made.pile(x), how == 0 ? 11234567L : 10123456L);
        }
    }

    private static void eightLaid() {
        long[] due = {176543210L, 101234567L, 101234567L};
        for (int how = 0; how < 3; how++) {
            AlwaysTheTopTwo x = new AlwaysTheTopTwo();
            x.set(3, how);
            x.buy(0, 0);
            Tally.due("LAID " + how + ": where none lies", Made.pile(x), 10);
            for (int i = 1; i < 8; i++) {
                x.buy(0, 0);
            }
            Tally.due("LAID " + how + ": eight", Made.pile(x), due[how]);
            Made.ruled(x, 8, 0, 0, how);
            x.live();
            Tally.due("LAID " + how + ": eight without a wash", Made.pile(x), due[how]);
            x.set(1, 3);
            x.live();
            x.set(0, 0);
            x.live();
            x.live();
            Tally.due("LAID " + how + ": eight are away", Made.pile(x), 1);
            x.live();
            Tally.due("LAID " + how + ": eight from the wash", Made.pile(x), due[how]);
        }
        AlwaysTheTopTwo x = eight();
        Made.ruled(x, 1, 0, 1, 2);
        x.live();
        Tally.due("LAID 2: below all seven that are less", Made.pile(x), 101234567L);
        x.set(2, 0);
        x.live();
        Tally.due("LAID 2: above all seven that are more", Made.pile(x), 101234567L);
    }

    private static void threeWeeksAway() {
        AlwaysTheTopTwo x = Made.ruled(Made.of(0, 0), 1, 3, 0, 0);
        x.live();
        x.set(0, 0);
        x.set(1, 0);
        int[] away = {3, 2, 1, 0, 0};
        for (int k = 0; k < 5; k++) {
            Tally.due("2: AWAY behind " + k + " weeks, whatever WASH is then", x.told(0, 6), away[k]);
            Tally.due("2: it lies behind " + k + " weeks", x.count(1), k < 3 ? 0 : 1);
            x.live();
        }
        AlwaysTheTopTwo y = Made.ruled(Made.of(0, 0), 1, 0, 0, 0);
        y.set(1, 1);
        for (int k = 1; k < 4; k++) {
            Tally.due("2: back in time, so none is TOO FEW", y.live(), 0);
            Tally.due("2: AWAY each week", y.told(0, 6), 1);
            Tally.due("2: washed each week", y.told(0, 2), 10 * k);
        }
        y.set(1, 2);
        Tally.due("2: now for two", y.live(), 0);
        Tally.due("2: then it is TOO FEW", y.live(), 1);
    }

    private static void washLeastAndMost() {
        int[] tooFew = {0, 0, 2, 2};
        for (int wash = 0; wash < 4; wash++) {
            AlwaysTheTopTwo x = Made.ruled(Made.of(0, 0), 1, wash, 0, 0);
            Tally.due("2: WASH " + wash + ", a WEEK", x.run(1, 2), 0);
            Tally.due("2: WASH " + wash + ", four WEEKS", x.run(4, 2), tooFew[wash]);
            x.live();
            Tally.due("2: WASH " + wash + ", AWAY", x.told(0, 6), wash);
            Tally.due("2: WASH " + wash + ", it lies", x.count(1), wash == 0 ? 1 : 0);
        }
        AlwaysTheTopTwo none = Made.ruled(Made.of(0, 0), 0, 1, 0, 0);
        Tally.due("2: none WANTED, none TOO FEW", none.live(), 0);
        Tally.due("2: so it lay", none.told(0, 4), 1);
        AlwaysTheTopTwo all = Made.ruled(Made.of(0, 0), 8, 1, 0, 0);
        Tally.due("2: eight WANTED of one", all.live(), 7);
        Tally.due("2: taken but once", all.told(0, 2), 10);
    }

    private static void gone() {
        AlwaysTheTopTwo x = Made.ruled(Made.of(0, 0, 0, 0, 0, 0, 0, 0, 0, 0), 0, 1, 0, 0);
        int[] yellow = {98, 98, 97, 98, 98};
        for (int i = 0; i < 5; i++) {
            x.put(i, 1, yellow[i]);
        }
        Tally.due("16: four go at once", x.run(1, 0), 1);
        Tally.due("16: in the first WEEK", x.run(1, 1), 0);
        x.live();
        Tally.due("2: all whose YELLOW is 99", Made.pile(x), 12);
        Tally.due("2: the last one, too", x.run(1, 0), 0);
        Tally.due("16: FIRST is of those that were none ahead", x.run(2, 1), 0);
        Tally.due("16: what was CLOTHS ahead is no FIRST", x.run(0, 1), -1);
        AlwaysTheTopTwo y = Made.ruled(Made.of(0, 0, 0, 0), 1, 0, 0, 0);
        y.put(0, 1, 99);
        y.put(1, 1, 99);
        Tally.due("2: YELLOW 99 is no CLOTHS till a WEEK ends", y.told(0, 6), 0);
        Tally.due("2: it can be TAKEN", y.next(), 1);
        Tally.due("2: it is TAKEN", y.live(), 0);
        Tally.due("2: laid again without a wash, it goes", y.told(1, 6), -1);
        Tally.due("2: it was washed", y.told(1, 2), 10);
        Tally.due("2: and so goes what lay", y.told(0, 6), -1);
        Tally.due("2: 99 stays 99", y.told(0, 3), 99);
        AlwaysTheTopTwo z = byLaw("0", "98", "0", 0, 0, 0, 0);
        z.set(0, 0);
        z.put(1, 1, 1);
        z.live();
        Tally.due("2: 98 isn't 99", Made.pile(z), 10);
        z.put(1, 0, 77);
        z.put(1, 1, 3);
        z.live();
        Tally.due("2: CLOTHS stay CLOTHS", z.told(1, 6), -1);
        Tally.due("10: though they can be put", z.told(1, 2) + z.told(1, 3), 80);
        Tally.due("9: a CLOTHS' LAIN", z.told(1, 4), 1);
    }

    private static void turning() {
        int[][] half = {{0, 0}, {1, 0}, {2, 1}, {3, 1}, {998, 499}, {999, 499}};
        for (int[] h : half) {
            AlwaysTheTopTwo x = Made.of(0, h[0]);
            Tally.due("12: half of " + h[0], x.turn(0), h[1]);
            Tally.due("12: it is so WORN", x.told(0, 2), h[1]);
            Tally.due("12: not twice", x.turn(0), -3);
        }
        AlwaysTheTopTwo x = Made.ruled(Made.of(0, 0), 1, 1, 0, 0);
        x.live();
        Tally.due("12: it is AWAY", x.turn(0), -3);
        x.set(0, 0);
        x.live();
        Tally.due("12: it lies again", x.turn(0), 5);
        x.put(0, 0, 400);
        Tally.due("12: TURNED stays", x.turn(0), -3);
        AlwaysTheTopTwo y = Made.ruled(Made.of(0, 0), 0, 1, 0, 0);
        y.put(0, 1, 99);
        y.live();
        Tally.due("12: CLOTHS that have LAIN", y.turn(0), -3);
    }

    private static void putAndLast() {
        AlwaysTheTopTwo x = eight();
        Tally.due("9: the last LINEN", x.told(7, 0), 0);
        Tally.due("9: none behind it", x.told(8, 0), -5);
        Tally.due("10: the last LINEN", x.put(7, 0, 999), 0);
        Tally.due("10: none behind it", x.put(8, 0, 0), -5);
        Tally.due("12: the last LINEN", x.turn(7), 499);
        Tally.due("12: none behind it", x.turn(8), -5);
        Tally.due("17: the last LINEN", x.then(7, 0, 0), 499);
        Tally.due("17: none behind it", x.then(8, 0, 0), -5);
        Tally.due("21: the last LINEN", x.when(7, 1, 0), -1);
        Tally.due("21: none behind it", x.when(8, 1, 0), -5);
        Tally.due("9: MORE of the first", x.told(0, 1), 0);
        Tally.due("10: not that of another one", x.told(6, 2), 0);
        AlwaysTheTopTwo y = byLaw("99", "0", "0", 0, 0);
        Made.ruled(y, 1, 0, 0, 0);
        y.put(0, 0, 999);
        y.live();
        Tally.due("2: WORN 999 stays 999", y.told(0, 2), 999);
        AlwaysTheTopTwo z = byLaw("0", "0", "0", 0, 0);
        z.set(0, 0);
        z.put(0, 2, 999);
        z.live();
        Tally.due("2: LAIN 999 stays 999", z.told(0, 4), 999);
    }
}
