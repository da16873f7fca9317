/** Promises 36 to 40: SHEETS, and what is taken for what. */
final class HostTest {
    private static final int MIN = Integer.MIN_VALUE;
    private static final int MAX = Integer.MAX_VALUE;

    private HostTest() {
    }

    static void tests() {
        sheet();
        cell();
        copy();
        copyRefusals();
        buyBy();
        buyByRefusals();
        taken();
    }

    private static void sheet() {
        AlwaysTheTopTwo x = new AlwaysTheTopTwo();
        for (int s : new int[] {-1, 4, MIN, MAX}) {
            Tally.due("36: SHEET " + s, x.sheet(s, 0, -1), -2);
        }
        for (int sort : new int[] {-2, 3, MIN, MAX}) {
            Tally.due("36: sort " + sort, x.sheet(0, sort, -1), -2);
        }
        Tally.due("36: n above 40", x.sheet(0, 0, 41), -2);
        Tally.due("36: n far above", x.sheet(0, 2, MAX), -2);
        Tally.due("36: n below 0", x.sheet(0, 0, -1), -14);
        Tally.due("36: n far below", x.sheet(0, 2, MIN), -14);
        Tally.due("36: none came", x.cell(0, 0, 0), -11);
        for (int sort = 0; sort < 3; sort++) {
            Tally.due("36: 40 of sort " + sort, x.sheet(sort, sort, 40), 1);
            Tally.due("36: the last of 40", x.cell(sort, 39, 1), 1);
            Tally.due("36: none behind", x.cell(sort, 40, 1), -12);
        }
        Tally.due("36: a row of none", x.sheet(3, 2, 0), 1);
        Tally.due("36: it is there", x.cell(3, 0, 1), -12);
        Tally.due("36: missing", x.sheet(3, -1, 0), 1);
        Tally.due("36: it is missing", x.cell(3, 0, 1), -11);
        Tally.due("36: n does not matter, below", x.sheet(2, -1, MIN), 1);
        Tally.due("36: n does not matter, above", x.sheet(1, -1, 41), 1);
        Tally.due("36: they are missing", x.cell(2, 0, 1) + x.cell(1, 0, 1), -22);
        AlwaysTheTopTwo y = Made.of(0, 0, 0, 0);
        Made.tell(y, 0, 7, 8);
        y.sheet(0, 2, 2);
        Tally.due("36: all 0", y.judge(0, 0), -1);
        Made.tell(y, 0, 7, 8);
        Tally.due("36: a refusal leaves it", y.sheet(0, 2, -1), -14);
        y.put(0, 0, 7);
        y.put(1, 0, 8);
        Tally.due("36: as it was", y.judge(0, 0), -1);
    }

    private static void cell() {
        AlwaysTheTopTwo x = Made.of(0, 44, 0, 999);
        for (int s : new int[] {-1, 4, MIN, MAX}) {
            Tally.due("37: SHEET " + s, x.cell(s, -1, 0), -2);
        }
        Tally.due("37: missing, ahead of the place", x.cell(0, -1, 0), -11);
        for (int sort = 0; sort < 3; sort++) {
            x.sheet(sort, sort, 2);
            for (int i : new int[] {-1, 2, 40, MIN, MAX}) {
                Tally.due("37: place " + i, x.cell(sort, i, 0), -12);
            }
        }
        // 300 is 256 and 44; 66535 is 65536 and 999.
        x.put(1, 0, 100);
        Tally.due("37: of bytes the lowest 8 bits", x.cell(0, 0, 300), 1);
        x.cell(0, 1, -156);
        Tally.due("37: so it tells", x.judge(0, 0), -1);
        x.put(1, 0, 999);
        x.cell(1, 0, 44);
        Tally.due("37: of shorts the lowest 16", x.cell(1, 1, 66535), 1);
        Tally.due("37: so they tell", x.judge(1, 0), -1);
        x.cell(2, 0, 44);
        x.cell(2, 1, 66535);
        Tally.due("37: of ints all", x.judge(2, 0), 1);
        x.cell(2, 1, 999);
        Tally.due("37: only that one", x.judge(2, 0), -1);
        x.put(0, 0, 200);
        x.put(1, 0, 100);
        x.cell(0, 0, 200);
        Tally.due("37: bytes go from -128 to 127, as Java's", x.judge(0, 0), 0);
    }

    private static void copy() {
        AlwaysTheTopTwo x = Made.of(0, 1, 0, 1, 0, 2, 0, 3, 0, 5);
        Made.tell(x, 0, 1, 2, 3, 4, 5);
        Tally.due("38: its own place, behind", x.copy(0, 0, 0, 1, 3), 3);
        Tally.due("38: as they were", x.judge(0, 0), -1);
        AlwaysTheTopTwo y = Made.of(0, 3, 0, 4, 0, 5, 0, 4, 0, 5);
        Made.tell(y, 0, 1, 2, 3, 4, 5);
        Tally.due("38: its own place, ahead", y.copy(0, 2, 0, 0, 3), 3);
        Tally.due("38: as they were, too", y.judge(0, 0), -1);
        AlwaysTheTopTwo z = Made.of(0, 0, 0, 2, 0, 3);
        Made.tell(z, 0, 1, 2, 3, 4, 5);
        Made.tell(z, 1, 0, 0, 0);
        Tally.due("38: another one's", z.copy(0, 1, 1, 1, 2), 2);
        Tally.due("38: came", z.judge(1, 0), -1);
        Tally.due("38: n 0", z.copy(0, 5, 1, 3, 0), 0);
        Tally.due("38: all", z.copy(1, 0, 0, 2, 3), 3);
        for (int sort = 0; sort < 2; sort++) {
            z.sheet(2, sort, 3);
            z.sheet(3, sort, 3);
            z.cell(2, 0, -300);
            z.cell(2, 1, 2);
            z.cell(2, 2, 3);
            z.put(0, 0, 0);
            Tally.due("38: of sort " + sort, z.copy(2, 1, 3, 1, 2), 2);
            Tally.due("38: these alone", z.judge(3, 0), -1);
        }
    }

    private static void copyRefusals() {
        AlwaysTheTopTwo x = Made.of(0, 0, 0, 0, 0, 0, 0, 0);
        for (int s : new int[] {-1, 4, MIN, MAX}) {
            Tally.due("38: SHEET " + s, x.copy(s, -1, 3, -1, -1), -2);
            Tally.due("38: other " + s, x.copy(3, -1, s, -1, -1), -2);
        }
        x.sheet(0, 2, 4);
        x.sheet(1, 1, 4);
        x.sheet(2, 2, 3);
        Tally.due("38: missing", x.copy(3, -1, 0, 0, 1), -11);
        Tally.due("38: the other one missing", x.copy(0, -1, 3, 0, 1), -11);
        Tally.due("38: unlike sorts, ahead of the places", x.copy(0, -1, 1, -1, -1), -13);
        x.cell(0, 0, 9);
        int[][] outside = {{-1, 0, 1}, {0, -1, 1}, {0, 0, -1}, {0, 0, 4}, {2, 0, 3}, {0, 1, 3}, {5, 0, 0}, {0, 4, 0},
            {MAX, 0, 1}, {0, MAX, 1}, {1, 1, MAX}, {MIN, 0, 0}, {0, MIN, 0}, {0, 0, MIN}, {MAX, MAX, MAX}};
        for (int[] o : outside) {
            Tally.due("38: " + o[0] + ", " + o[1] + ", " + o[2], x.copy(0, o[0], 2, o[1], o[2]), -12);
        }
        x.sheet(3, 2, 4);
        x.copy(2, 0, 3, 0, 3);
        Tally.due("38: none came of these", x.judge(3, 0), -1);
    }

    private static void buyBy() {
        AlwaysTheTopTwo x = new AlwaysTheTopTwo();
        Made.tell(x, 0, 99, 34, 20, 60, 0, 12, 999, 45, 5);
        Tally.due("39: two by two, from 1 on", x.buyBy(0, 2, 1, 4), 3);
        Tally.due("39: 60 is no KIND, its LINEN is left out", x.count(0), 3);
        Tally.due("39: the first", x.told(0, 0) * 10 + x.told(0, 1), 34);
        Tally.due("39: its WORN", x.told(0, 2), 20);
        Tally.due("39: the last", x.told(2, 0) * 10 + x.told(2, 1), 45);
        Tally.due("39: they are laid", Made.pile(x), 1210);
        Tally.due("39: none", x.buyBy(0, 2, 0, 0), 0);
        x.set(3, 1);
        x.sheet(1, 0, 16);
        x.cell(1, 1, 7);
        Tally.due("39: five have room", x.buyBy(1, 0, 0, 8), 5);
        Tally.due("39: bytes", x.told(3, 2), 7);
        Tally.due("39: laid below all", Made.pile(x), 121034567L);
        Tally.due("39: then none comes", x.buyBy(1, 0, 0, 8), 0);
        AlwaysTheTopTwo y = new AlwaysTheTopTwo();
        y.sheet(0, 1, 4);
        y.cell(0, 1, 500);
        y.cell(0, 3, -1);
        Tally.due("39: shorts, one WORN below 0", y.buyBy(0, 1, 0, 2), 1);
        Tally.due("39: so WORN", y.told(0, 2), 500);
    }

    private static void buyByRefusals() {
        AlwaysTheTopTwo x = new AlwaysTheTopTwo();
        for (int s : new int[] {-1, 4, MIN, MAX}) {
            Tally.due("39: SHEET " + s, x.buyBy(s, 2, 0, 1), -2);
        }
        for (int sort : new int[] {-1, 3, MIN, MAX}) {
            Tally.due("39: sort " + sort, x.buyBy(0, sort, 0, 1), -2);
        }
        for (int n : new int[] {-1, 9, MIN, MAX}) {
            Tally.due("39: n " + n, x.buyBy(0, 2, 0, n), -2);
        }
        Tally.due("39: missing", x.buyBy(0, 2, -1, 1), -11);
        x.sheet(0, 2, 5);
        Tally.due("39: of another sort, ahead of the place", x.buyBy(0, 1, -1, 1), -13);
        for (int at : new int[] {-1, 4, 5, 40, MIN, MAX, MAX - 1}) {
            Tally.due("39: place " + at, x.buyBy(0, 2, at, 1), -12);
        }
        Tally.due("39: none came", x.count(0), 0);
        Tally.due("39: the third is outside", x.buyBy(0, 2, 0, 3), -12);
        Tally.due("39: what stood ahead came", x.count(0), 2);
        Tally.due("39: behind a place outside nothing comes", x.buyBy(0, 2, -2, 2), -12);
        Tally.due("39: indeed", x.count(0), 2);
    }

    private static void taken() {
        AlwaysTheTopTwo x = Made.of(50, 1, 40, 2, 30, 3, 20, 4, 10, 5, 0, 6);
        // THE PILE: 5 a PLAIN, 4 a FINE, 3 a THIN, 2 a WEDDING, 1 a DARNED, 0 a COT.
        int[] is = {0b000001, 0b000011, 0b000101, 0b001011, 0b010101, 0b100001};
        for (int place = 0; place < 6; place++) {
            for (int kind = 0; kind < 6; kind++) {
                int due = (is[place] >> kind & 1) == 1 ? 5 - place : -13;
                Tally.due("40: taken(" + place + ", " + kind + ")", x.taken(place, kind), due);
                Tally.due("40: a WORN for a LINEN", x.taken(8 + place, kind), -13);
            }
            Tally.due("40: a LINEN for a WORN", x.taken(place, 6), -13);
            Tally.due("40: a WORN", x.taken(8 + place, 6), 1 + place);
        }
        for (int kind : new int[] {-1, 7, MIN, MAX}) {
            Tally.due("40: kind " + kind, x.taken(-1, kind), -2);
        }
        for (int i : new int[] {-1, 16, MIN, MAX}) {
            Tally.due("40: place " + i, x.taken(i, 0), -12);
        }
        for (int i : new int[] {6, 7, 14, 15}) {
            Tally.due("40: nothing at " + i, x.taken(i, 0), -11);
            Tally.due("40: no WORN at " + i, x.taken(i, 6), -11);
        }
        x.live();
        Tally.due("40: two are away", x.taken(0, 0), 3);
        Tally.due("40: so nothing lies there", x.taken(4, 0), -11);
        Tally.due("40: their WORN is there", x.taken(13, 6), 16);
    }
}
