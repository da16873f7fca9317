/** Promises 25 to 31: by what it came to be so WORN. */
final class ToldWearTest {
    private static final int MIN = Integer.MIN_VALUE;
    private static final int MAX = Integer.MAX_VALUE;

    private ToldWearTest() {
    }

    static void tests() {
        judge();
        refusals();
        rulesOf();
        kinds();
        wants();
        weeks();
        laws();
        film();
    }

    private static AlwaysTheTopTwo telling(AlwaysTheTopTwo x, int... worn) {
        Made.tell(x, 1, worn);
        return x;
    }

    private static void judge() {
        AlwaysTheTopTwo x = Made.of(0, 5, 0, 7);
        Tally.due("25: as it is", telling(x, 5, 7).judge(1, 0), -1);
        Tally.due("25: the second is otherwise", telling(x, 5, 8).judge(1, 0), 1);
        Tally.due("25: both are, the first", telling(x, 4, 8).judge(1, 0), 0);
        Tally.due("25: behind a week", telling(x, 15, 17).judge(1, 1), -1);
        Tally.due("25: not behind two", x.judge(1, 2), 0);
        Tally.due("25: behind 200", telling(x, 405, 407).judge(1, 200), -1);
        x.sheet(1, 0, 2);
        x.cell(1, 0, 105);
        x.cell(1, 1, 107);
        Tally.due("25: bytes", x.judge(1, 10), -1);
        Tally.due("25: no LINEN", telling(new AlwaysTheTopTwo()).judge(1, 9), -1);
    }

    /** What all of these calls refuse alike. */
    private static void refusals() {
        AlwaysTheTopTwo x = telling(Made.of(0, 5, 0, 7), 5, 7);
        x.sheet(2, 2, 3);
        x.sheet(3, 2, 1);
        for (int call = 0; call < 6; call++) {
            for (int s : new int[] {-1, 4, MIN, MAX}) {
                Tally.due("told wear " + call + ": SHEET " + s, ask(x, call, s, -1), -2);
            }
            Tally.due("told wear " + call + ": missing, ahead of n", ask(x, call, 0, -1), -11);
            Tally.due("told wear " + call + ": too many, ahead of n", ask(x, call, 2, -1), -2);
            Tally.due("told wear " + call + ": too few, ahead of n", ask(x, call, 3, -1), -2);
            for (int n : new int[] {-1, 201, MIN, MAX}) {
                Tally.due("told wear " + call + ": n " + n, ask(x, call, 1, n), -7);
            }
        }
        Tally.due("27: n ahead of LINEN", x.kinds(1, -1, 99), -7);
        for (int sheetSort : new int[] {20, 21, 29, 80, 1000, MAX, -1, -2, -9, -10, MIN}) {
            Tally.due("27: LINEN of " + sheetSort, x.kinds(1, 0, sheetSort), -5);
        }
        for (int sort = 2; sort < 10; sort++) {
            Tally.due("27: sort " + sort, x.kinds(1, 0, 10 + sort), -7);
        }
        for (int sort : new int[] {-1, 2, MIN, MAX}) {
            Tally.due("28: sort " + sort, x.wants(1, 0, sort), -7);
            Tally.due("29: what " + sort, x.weeks(1, sort), -7);
        }
    }

    /** weeks() has no n: what is not as told takes its place. */
    private static int ask(AlwaysTheTopTwo x, int call, int s, int n) {
        switch (call) {
            case 0: return x.judge(s, n);
            case 1: return x.rulesOf(s, n);
            case 2: return x.kinds(s, n, 0);
            case 3: return x.wants(s, n, 0);
            case 4: return x.weeks(s, n);
            default: return x.laws(s, n);
        }
    }

    private static void rulesOf() {
        AlwaysTheTopTwo x = Made.ruled(Made.of(0, 0, 0, 0), 1, 0, 3, 2);
        Tally.due("26: the top one was taken", telling(x, 0, 10).rulesOf(1, 1), 0b111_111_000_111);
        Tally.due("26: the lowest was taken", telling(x, 10, 0).rulesOf(1, 1), 0b000_000_111_000);
        Tally.due("26: the top one, laid on the top", telling(x, 0, 20).rulesOf(1, 2), 1);
        Tally.due("26: the lowest, laid below all", telling(x, 20, 0).rulesOf(1, 2), 1 << 4);
        Tally.due("26: by none", telling(x, 20, 1).rulesOf(1, 2), 0);
        Tally.due("26: behind none all", telling(x, 0, 0).rulesOf(1, 0), 4095);
        Tally.due("26: the rules stay", x.count(4) * 10 + x.count(5), 32);
    }

    private static void kinds() {
        AlwaysTheTopTwo x = Made.of(4, 0, 4, 0);
        Tally.due("27: PLAIN or THIN", telling(x, 10, 10).kinds(1, 1, 10), 0b000101);
        Tally.due("27: FINE or WEDDING", telling(x, 10, 8).kinds(1, 1, 10), 0b001010);
        Tally.due("27: DARNED", telling(x, 12, 10).kinds(1, 1, 0), 0b010000);
        Tally.due("27: COT", telling(x, 5, 10).kinds(1, 1, 0), 0b100000);
        Tally.due("27: the other one is otherwise", telling(x, 5, 11).kinds(1, 1, 0), 0);
        Tally.due("27: all, behind none", telling(x, 0, 0).kinds(1, 0, 0), 63);
        Tally.due("27: all MORE, behind none", x.kinds(1, 0, 1), 1023);
        Tally.due("27: the KIND stays", x.told(0, 0) * 10 + x.told(0, 1), 4);
        AlwaysTheTopTwo y = Made.of(14, 0, 27, 201);
        Tally.due("27: MORE of a FINE", telling(y, 8, 218).kinds(1, 1, 1), 0b0000110000);
        Tally.due("27: MORE of a THIN", telling(y, 8, 218).kinds(1, 1, 11), 0b0010000000);
    }

    private static void wants() {
        AlwaysTheTopTwo x = Made.of(0, 0, 0, 0);
        Tally.due("28: none wanted", telling(x, 0, 0).wants(1, 1, 0), 1);
        Tally.due("28: one wanted", telling(x, 0, 10).wants(1, 1, 0), 2);
        Tally.due("28: two or more", telling(x, 10, 10).wants(1, 1, 0), 0b111111100);
        Tally.due("28: behind none", telling(x, 0, 0).wants(1, 0, 0), 511);
        Tally.due("28: any WASH, behind none", telling(x, 0, 0).wants(1, 0, 1), 15);
        AlwaysTheTopTwo y = Made.ruled(Made.of(0, 0), 1, 3, 0, 0);
        Tally.due("28: back each week", telling(y, 20).wants(1, 2, 1), 0b0011);
        Tally.due("28: longer away", telling(y, 10).wants(1, 2, 1), 0b1100);
        Tally.due("28: three weeks", telling(y, 10).wants(1, 3, 1), 0b1000);
        Tally.due("28: WANTED, WASH stay", y.count(2) * 10 + y.count(3), 13);
    }

    private static void weeks() {
        AlwaysTheTopTwo x = Made.ruled(Made.of(0, 0), 1, 2, 0, 0);
        Tally.due("29: at first", telling(x, 10).weeks(1, 0), 1);
        Tally.due("29: how many", x.weeks(1, 1), 2);
        Tally.due("29: as it is", telling(x, 0).weeks(1, 0), 0);
        Tally.due("29: but not behind a week", x.weeks(1, 1), 1);
        Tally.due("29: never", telling(x, 7).weeks(1, 0), -1);
        Tally.due("29: no such number", x.weeks(1, 1), 0);
        Tally.due("29: the last one is 60", telling(x, 310).weeks(1, 0), -1);
        Tally.due("29: ahead of it", telling(x, 300).weeks(1, 0), 59);
        x.set(1, 1);
        Tally.due("29: CLOTHS stay so", telling(x, 400).weeks(1, 1), 21);
        Tally.due("29: 60 is one", telling(Made.ruled(Made.of(19, 0), 1, 1, 0, 0), 360).weeks(1, 0), 60);
        x.put(0, 0, 0);
        Tally.due("29: behind 40", telling(x, 400).weeks(1, 0), 40);
    }

    private static void laws() {
        AlwaysTheTopTwo x = Made.ruled(Made.of(0, 0), 1, 0, 0, 0);
        Made.text(x, "wears 5;yellows 0;costs 0;");
        Made.text(x, "wears 10*(week<1);yellows 0;costs 0;");
        Tally.due("30: by 0 and 2", telling(x, 10).laws(1, 1), 0b101);
        Tally.due("30: by 1", telling(x, 5).laws(1, 1), 0b010);
        Tally.due("30: behind two weeks by 1 and 2", telling(x, 10).laws(1, 2), 0b110);
        Tally.due("30: by none", telling(x, 11).laws(1, 2), 0);
        Tally.due("30: THE LAW stays", x.count(8), 0);
        for (int k = 0; k < 3; k++) {
            Made.text(x, "wears 5;yellows 0;costs 0;");
        }
        Tally.due("30: all six behind none", telling(x, 0).laws(1, 0), 63);
    }

    private static void film() {
        AlwaysTheTopTwo x = Made.of(0, 5, 0, 300);
        Tally.due("31: how many", x.film(2, 3), 2);
        Tally.due("31: it tells that", x.judge(2, 3), -1);
        Tally.due("31: not that", x.judge(2, 2), 0);
        Tally.due("31: shorts", x.buyBy(2, 1, 0, 0), 0);
        Tally.due("31: no ints", x.buyBy(2, 2, 0, 0), -13);
        Tally.due("31: two of them", x.cell(2, 1, 0), 1);
        Tally.due("31: not three", x.cell(2, 2, 0), -12);
        x.sheet(2, 0, 9);
        Tally.due("31: another one anew", x.film(2, 0), 2);
        Tally.due("31: it tells as it is", x.judge(2, 0), -1);
        Tally.due("31: THE WEEK stays", x.count(6), 0);
        for (int s : new int[] {-1, 4, MIN, MAX}) {
            Tally.due("31: SHEET " + s, x.film(s, 0), -2);
        }
        for (int n : new int[] {-1, 201, MIN, MAX}) {
            Tally.due("31: n " + n, x.film(2, n), -2);
        }
        Tally.due("31: that changed nothing", x.judge(2, 0), -1);
        AlwaysTheTopTwo y = new AlwaysTheTopTwo();
        Tally.due("31: of none", y.film(0, 9), 0);
        Tally.due("31: then it is there", y.cell(0, 0, 0), -12);
    }
}
