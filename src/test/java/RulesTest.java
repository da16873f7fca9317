/** Promises 1 to 7: a new object, the rules, THE TAPE, the TEXTS. */
final class RulesTest {
    private static final int MIN = Integer.MIN_VALUE;
    private static final int MAX = Integer.MAX_VALUE;

    private RulesTest() {
    }

    static void tests() {
        newObject();
        count();
        set();
        feed();
        textsThatAreRight();
        faults();
        whatTextDoesToTheTape();
        force();
        asks();
        whatAnESays();
    }

    private static void newObject() {
        AlwaysTheTopTwo x = new AlwaysTheTopTwo();
        Tally.due("1: count(0)", x.count(0), 0);
        Tally.due("1: told(0, 0)", x.told(0, 0), -5);
        Tally.due("1: next()", x.next(), -1);
        Tally.due("1: run(5, 4)", x.run(5, 4), -1);
        Tally.due("1: asks(0, 0, 0, 0)", x.asks(0, 0, 0, 0), 10);
        Tally.due("1: asks(1, 0, 0, 0)", x.asks(1, 0, 0, 0), 1);
        Tally.due("1: asks(2, 0, 0, 0)", x.asks(2, 0, 0, 0), 50);
    }

    private static void count() {
        AlwaysTheTopTwo x = new AlwaysTheTopTwo();
        int[] first = {0, 0, 2, 1, 0, 0, 0, 1, 0, 0};
        for (int what = 0; what < 10; what++) {
            Tally.due("2: at first count " + what, x.count(what), first[what]);
        }
        x.buy(0, 0);
        x.buy(0, 395);
        x.buy(0, 0);
        Made.ruled(x, 1, 3, 2, 1);
        x.set(2, 1);
        x.set(3, 2);
        x.put(0, 0, 395);
        x.live();
        Made.text(x, "wears 1;yellows 1;costs 1;");
        x.force(1);
        x.feed(3, 32, 32, 32, 0, 0);
        // The lowest one, 0, has gone to CLOTHS: it counts among LINEN, but lies no longer.
        int[] then = {3, 2, 1, 3, 1, 2, 1, 2, 1, 3};
        for (int what = 0; what < 10; what++) {
            Tally.due("2: then count " + what, x.count(what), then[what]);
        }
        for (int what : new int[] {-1, 10, MIN, MAX}) {
            Tally.due("2: count(" + what + ")", x.count(what), -2);
        }
    }

    private static void set() {
        int[] first = {2, 1, 0, 0};
        int[] most = {8, 3, 3, 2};
        for (int what = 0; what < 4; what++) {
            AlwaysTheTopTwo x = new AlwaysTheTopTwo();
            Tally.due("3: set(" + what + ", most)", x.set(what, most[what]), first[what]);
            Tally.due("3: set(" + what + ", more)", x.set(what, most[what] + 1), -7);
            Tally.due("3: set(" + what + ", -1)", x.set(what, -1), -7);
            Tally.due("3: set(" + what + ", MIN)", x.set(what, MIN), -7);
            Tally.due("3: it stays", x.count(2 + what), most[what]);
            Tally.due("3: set(" + what + ", 0)", x.set(what, 0), most[what]);
            Tally.due("3: it became", x.count(2 + what), 0);
        }
        AlwaysTheTopTwo x = new AlwaysTheTopTwo();
        for (int what : new int[] {-1, 4, MIN, MAX}) {
            Tally.due("3: set(" + what + ", 0)", x.set(what, 0), -5);
            Tally.due("3: what ahead of v", x.set(what, 99), -5);
        }
    }

    private static void feed() {
        AlwaysTheTopTwo x = new AlwaysTheTopTwo();
        Tally.due("4: one", x.feed(1, 97, 0, 0, 0, 0), 1);
        Tally.due("4: five", x.feed(5, 0, 255, 98, 99, 32), 6);
        for (int n : new int[] {0, 6, -1, MIN, MAX}) {
            Tally.due("4: feed n " + n, x.feed(n, 1, 1, 1, 1, 1), -2);
        }
        for (int v : new int[] {-1, 256, MIN, MAX}) {
            Tally.due("4: a " + v, x.feed(1, v, 0, 0, 0, 0), -2);
            Tally.due("4: b " + v, x.feed(1, 0, v, 0, 0, 0), -2);
            Tally.due("4: c " + v, x.feed(1, 0, 0, v, 0, 0), -2);
            Tally.due("4: d " + v, x.feed(1, 0, 0, 0, v, 0), -2);
            Tally.due("4: e " + v, x.feed(1, 0, 0, 0, 0, v), -2);
        }
        Tally.due("4: none came of these", x.count(9), 6);
        for (int k = 0; k < 30; k++) {
            x.feed(5, 32, 32, 32, 32, 32);
        }
        Tally.due("4: 156 stand", x.count(9), 156);
        Tally.due("4: five have no room", x.feed(5, 1, 1, 1, 1, 1), -4);
        Tally.due("4: BAD ahead of FULL", x.feed(5, 1, 1, 1, 1, 256), -2);
        Tally.due("4: none of the five came", x.count(9), 156);
        Tally.due("4: four have room", x.feed(4, 1, 1, 1, 1, 1), 160);
        Tally.due("4: then none has", x.feed(1, 1, 1, 1, 1, 1), -4);
        // The bytes come in their order: the fault is at the first one that is no blank.
        AlwaysTheTopTwo y = new AlwaysTheTopTwo();
        y.feed(3, 32, 10, 32, 255, 255);
        y.feed(2, 32, 7, 0, 0, 0);
        Tally.due("4: in their order", y.text(), -104);
    }

    private static void textsThatAreRight() {
        right("wears 10 ; yellows 1 ; costs 50 ;");
        right("wears10;yellows1;costs50;");
        right("\n wears\n10 ;yellows 1;costs 0000 ; \n ");
        right("wears worn+lain*more-turned;yellows week<wanted;costs week=wanted;");
        right("wears 12and 3or 4;yellows not 1 < 2;costs (not 1)<2;");
        right("wears(((((1)))));yellows-----1;costs not not not not not 1;");
        right("wears -(-(-1));yellows not(-(-1))and not not not not not 1;costs -----1------1;");
        right("wears not not not not not 1 or not not not not not 1;yellows(((((1)))))+(((((1)))));costs 1;");
        AlwaysTheTopTwo x = new AlwaysTheTopTwo();
        for (int t = 1; t < 6; t++) {
            Tally.due("5: its number", Made.text(x, "wears 1;yellows 1;costs " + t + ";"), t);
        }
        Tally.due("5: six at most", Made.text(x, "wears 1;yellows 1;costs 1;"), -4);
        Tally.due("5: then the tape stays", x.count(9), 26);
        Tally.due("5: six", x.count(7), 6);
        AlwaysTheTopTwo y = new AlwaysTheTopTwo();
        String longest = "wears 1;yellows 1;costs 1;" + " ".repeat(134);
        Tally.due("5: 160 bytes", Made.text(y, longest), 1);
        String steps = "wears 1" + "+1".repeat(66) + ";yellows 1;costs 1;";
        Tally.due("5: many steps", Made.text(y, steps), 2);
        y.force(2);
        Tally.due("5: many steps say", y.asks(0, 0, 0, 0), 67);
    }

    private static void right(String text) {
        Tally.due("5: " + text, Made.text(new AlwaysTheTopTwo(), text), 1);
    }

    private static void faults() {
        fault("^");
        fault("   ^");
        fault("^;");
        fault("^yellows 1;");
        fault("wears^");
        fault("wears 1 ^yellows 1;");
        fault("wears 1;yellows 1;costs 1^");
        fault("wears 1;yellows 1;costs 1 \n^");
        fault("wears 1;yellows 1;^");
        fault("wears 1;yellows 1;costs 1; ^;");
        fault("wears 1;yellows 1;costs 1;^wears 1;");
        fault("wears 1;yellows 1;costs 1; ^$");
        fault("wears 1;^costs 1;");
        fault("wears ^;");
        fault("wears ^Worn;");
        fault("wears ^\t1;");
        fault("wears ^\r1;");
        fault("wears ^wornx;");
        fault("wears ^wornz;");
        fault("wears ^corn;");
        fault("wears 1;yellows 1;costs 1;^\0");
        fault("wears ^\0 1;");
        fault("wears 1 ^\u00ff;");
        fault("wears ^wor;");
        fault("^wearsworn;");
        fault("^wear 1;");
        fault("^bears 1;");
        fault("wears ^wears;");
        fault("wears ^12345;");
        fault("wears ^00001;");
        fault("wears 1 ^12345;");
        fault("wears 1 ^worn;");
        fault("wears worn ^2;");
        fault("wears 12^a;");
        fault("wears 1 < 2 ^< 3;");
        fault("wears 1 = 2 ^= 3;");
        fault("wears 1 < 2 ^= 3;");
        fault("wears 1 < ^not 2;");
        fault("wears 1 + ^not 2;");
        fault("wears - ^not 2;");
        fault("wears 1 * ^not 2;");
        fault("wears 1 ^not 2;");
        fault("wears 1 < ^;");
        fault("wears 1 ^{");
        fault("wears (1 ^;");
        fault("wears (1^");
        fault("wears 1 ^);");
        fault("wears (^);");
        fault("wears 1 ^(2);");
        fault("wears ^*1;");
        fault("wears ^+1;");
        fault("wears 1+^+1;");
        fault("wears ^and 1;");
        fault("wears 1 or ^or 1;");
        fault("wears 1 and ^or 1;");
        fault("wears not ^and;");
        fault("wears not^");
        fault("wears ((((((1".replace("((((((", "(((((^("));
        fault("wears -----^-1;");
        fault("wears not not not not not ^not 1;");
        fault("wears not(-(not^(");
        fault("wears not(-(not 1 + ^-1");
        fault("wears not(-(not 1 < ^(1)");
        fault("wears -(-(-^-1");
        fault("wears not not not not not 1 < ^-1;");
        fault("wears not not not not not 1 or not not not not not ^(1);");
        fault("wears (((((1)))))*(((((^-1");
    }

    /** The ^ tells where the fault is, and is not of the text. */
    private static void fault(String marked) {
        int place = marked.indexOf('^');
        String text = marked.substring(0, place) + marked.substring(place + 1);
        AlwaysTheTopTwo x = new AlwaysTheTopTwo();
        Tally.due("5: " + marked, Made.text(x, text), -100 - place);
        Tally.due("5: no text came of " + marked, x.count(7), 1);
        Tally.due("5: nothing stays of " + marked, x.count(9), 0);
    }

    private static void whatTextDoesToTheTape() {
        AlwaysTheTopTwo x = new AlwaysTheTopTwo();
        Made.text(x, "wears 1;yellows 1;costs 1;");
        Tally.due("5: it is empty then", x.count(9), 0);
        Made.text(x, "wears 99;yellows 99;cost");
        Tally.due("5: nothing of a wrong one is in the next", Made.text(x, "wears 3;yellows 4;costs 5;"), 2);
        Tally.due("5: THE LAW stays", x.asks(0, 0, 0, 0), 10);
        x.force(2);
        Tally.due("5: wears", x.asks(0, 0, 0, 0), 3);
        Tally.due("5: yellows", x.asks(1, 0, 0, 0), 4);
        Tally.due("5: costs", x.asks(2, 0, 0, 0), 5);
        for (int k = 0; k < 3; k++) {
            Made.text(x, "wears 1;yellows 1;costs 1;");
        }
        Tally.due("5: FULL ahead of the FAULT", Made.text(x, "?"), -4);
        Tally.due("5: THE TAPE stays", x.count(9), 1);
    }

    private static void force() {
        AlwaysTheTopTwo x = new AlwaysTheTopTwo();
        Tally.due("6: no such text", x.force(1), -2);
        Tally.due("6: TEXT 0", x.force(0), 0);
        Made.text(x, "wears 1;yellows 1;costs 1;");
        Made.text(x, "wears 2;yellows 2;costs 2;");
        Tally.due("6: which was, at first", x.force(2), 0);
        Tally.due("6: which was, then", x.force(1), 2);
        Tally.due("6: no TEXT 3", x.force(3), -2);
        Tally.due("6: none below", x.force(-1), -2);
        Tally.due("6: far off", x.force(MAX), -2);
        Tally.due("6: it stays", x.count(8), 1);
        Tally.due("6: it says", x.asks(0, 0, 0, 0), 1);
    }

    private static void asks() {
        String text = "wears worn+lain;yellows 10*more+turned;costs worn+lain+more+turned+week*10+wanted;";
        AlwaysTheTopTwo x = Made.byLaw(new AlwaysTheTopTwo(), text);
        x.set(0, 4);
        x.live();
        x.live();
        Tally.due("7: worn, lain", x.asks(0, 30, 12, 91), 42);
        Tally.due("7: more, turned", x.asks(1, 30, 12, 81), 81);
        Tally.due("7: of costs those of the call, too", x.asks(2, 30, 12, 91), 30 + 12 + 9 + 1 + 20 + 4);
        Tally.due("7: the bound", x.asks(0, 99, 1, 0), 99);
        Tally.due("7: the edges", x.asks(0, 999, 999, 0), 99);
        for (int v : new int[] {-1, 3, MIN, MAX}) {
            Tally.due("7: part " + v, x.asks(v, 0, 0, 0), -2);
        }
        for (int v : new int[] {-1, 1000, MIN, MAX}) {
            Tally.due("7: worn " + v, x.asks(1, v, 0, 0), -2);
            Tally.due("7: lain " + v, x.asks(1, 0, v, 0), -2);
        }
        for (int v : new int[] {-1, -10, 2, 9, 12, 92, 99, 100, 101, MIN, MAX}) {
            Tally.due("7: moreTurned " + v, x.asks(0, 0, 0, v), -2);
        }
        Tally.due("7: it changes nothing", x.count(6), 2);
    }

    private static void whatAnESays() {
        says("2 + 3 * 4", 14);
        says("(2 + 3) * 4", 20);
        says("20 - 5 - 3", 12);
        says("2 * 3 * 4", 24);
        says("- 2 * - 3", 6);
        says("- 3 + 5", 2);
        says("3 - 5", 0);
        says("-1", 0);
        says("100", 99);
        says("99", 99);
        says("9999", 99);
        says("0012", 12);
        says("1 < 2", 1);
        says("2 < 2", 0);
        says("-1 < 0", 1);
        says("2 = 2", 1);
        says("2 = 3", 0);
        says("not 0", 1);
        says("not 7", 0);
        says("not not 7", 1);
        says("not 3 < 2", 1);
        says("not 1 = 0", 1);
        says("7 and 9", 1);
        says("7 and 0", 0);
        says("0 or 9", 1);
        says("0 or 0", 0);
        says("7", 7);
        says("1 or 0 and 0", 1);
        says("0 and 0 or 1", 1);
        says("0 and (0 or 1)", 0);
        says("1 + 1 < 3 and 5 * 2 = 10", 1);
        says("3 * (1 < 2) + 4 * (2 < 1)", 3);
        says("-1 and 1", 1);
        says("9999*9999*9999", 0);
        // An int wraps: 9999 times 9999 times 43 comes once around, to 4299140043 less 4294967296.
        says("9999*9999*43-4172*1000-700", 47);
        says("9999*9999*43 < 0", 0);
        says("9999*9999*42 < 0", 1);
    }

    private static void says(String e, int want) {
        AlwaysTheTopTwo x = Made.byLaw(new AlwaysTheTopTwo(), "wears " + e + ";yellows 0;costs 0;");
        Tally.due("7: " + e, x.asks(0, 0, 0, 0), want);
        AlwaysTheTopTwo y = Made.byLaw(new AlwaysTheTopTwo(), "wears 0;yellows 0;costs " + e + ";");
        Tally.due("7: costs " + e, y.asks(2, 0, 0, 0), want);
    }
}
