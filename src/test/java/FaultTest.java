/**
 * Promise 5, FAULT: behind each beginning of a TEXT each TOKEN. If it can't stand there the FAULT is its first byte,
 * else the text's size, for then the TEXT ends too early.
 */
final class FaultTest {
    private static final String[] TOKENS = {
        "(", ")", ";", "+", "-", "*", "<", "=", "not", "and", "or", "wears", "yellows", "costs",
        "worn", "lain", "more", "turned", "week", "wanted", "0", "7", "1234", "0000",
        "12345", "00000", "x", "wor", "wornn", "nots", "an", "a", "Worn", "A", "Z", "$", "/", ":", "`", "{", ">", "!", "[",
        ",", ".", "\t", "\r", "\0", "\u007f", "\u00e9", "\u00ff",
    };
    private static final String LEAF = " worn lain more turned week wanted 0 7 1234 0000 ";
    private static final String ONE = " ( -" + LEAF;
    private static final String ANY = " not" + ONE;
    private static final String BEHIND = " ; + - * < = and or ";
    private static final String BEHIND_SIGN = " ; + - * and or ";
    private static final String IN = " ) + - * < = and or ";
    private static final String IN_BEHIND_SIGN = " ) + - * and or ";

    private FaultTest() {
    }

    static void tests() {
        keys();
        behindSigns();
        behindOnes();
        fiveOpen();
        fiveClosed();
        inEachPart();
    }

    /** The beginning ends with a blank, so that the TOKEN stands for itself. */
    private static void behind(String beginning, String canStand) {
        AlwaysTheTopTwo empty = new AlwaysTheTopTwo();
        Tally.due("5: it ends behind " + beginning, Made.text(empty, beginning), -100 - beginning.length());
        for (String token : TOKENS) {
            AlwaysTheTopTwo x = new AlwaysTheTopTwo();
            boolean can = canStand.contains(" " + token + " ");
            int place = beginning.length() + (can ? token.length() : 0);
            Tally.due("5: " + beginning + token, Made.text(x, beginning + token), -100 - place);
            Tally.due("5: no TEXT came", x.count(7), 1);
            Tally.due("5: THE TAPE is empty", x.count(9), 0);
        }
    }

    private static void keys() {
        behind("", " wears ");
        behind(" \n ", " wears ");
        behind("wears 1 ; ", " yellows ");
        behind("wears 1 ; yellows 1 ; ", " costs ");
        String right = "wears 1 ; yellows 1 ; costs 1 ; ";
        Tally.due("5: that is right", Made.text(new AlwaysTheTopTwo(), right), 1);
        for (String token : TOKENS) {
            Tally.due("5: behind the end " + token, Made.text(new AlwaysTheTopTwo(), right + token), -100 - right.length());
        }
    }

    private static void behindSigns() {
        behind("wears ", ANY);
        behind("wears 1 or ", ANY);
        behind("wears 1 and ", ANY);
        behind("wears 1 < 2 or ", ANY);
        behind("wears 1 < 2 and ", ANY);
        behind("wears ( ", ANY);
        behind("wears 1 + ( ", ANY);
        behind("wears - ( ", ANY);
        behind("wears not ", ANY);
        behind("wears not not ", ANY);
        behind("wears not 1 or ", ANY);
        behind("wears 1 < ", ONE);
        behind("wears 1 = ", ONE);
        behind("wears 1 + ", ONE);
        behind("wears 1 - ", ONE);
        behind("wears 1 * ", ONE);
        behind("wears - ", ONE);
        behind("wears - - ", ONE);
        behind("wears 1 - - ", ONE);
        behind("wears not - ", ONE);
        behind("wears not 1 = ", ONE);
        behind("wears 1 < 2 + ", ONE);
        behind("wears 1 * 2 * ", ONE);
    }

    private static void behindOnes() {
        behind("wears 1 ", BEHIND);
        behind("wears worn ", BEHIND);
        behind("wears - 1 ", BEHIND);
        behind("wears not 1 ", BEHIND);
        behind("wears 1 + 2 ", BEHIND);
        behind("wears 1 - 2 * 3 ", BEHIND);
        behind("wears ( 1 ) ", BEHIND);
        behind("wears ( 1 < 2 ) ", BEHIND);
        behind("wears not ( 1 = 2 ) ", BEHIND);
        behind("wears 1 < 2 and 3 ", BEHIND);
        behind("wears 1 < 2 or 3 ", BEHIND);
        behind("wears 1 < 2 ", BEHIND_SIGN);
        behind("wears 1 = 2 ", BEHIND_SIGN);
        behind("wears 1 < 2 + 3 ", BEHIND_SIGN);
        behind("wears 1 = ( 2 < 3 ) ", BEHIND_SIGN);
        behind("wears not 1 < 2 ", BEHIND_SIGN);
        behind("wears 1 and 2 = 3 ", BEHIND_SIGN);
        behind("wears ( 1 ", IN);
        behind("wears ( not 1 ", IN);
        behind("wears ( 1 < 2 or 3 ", IN);
        behind("wears 1 < ( 2 ", IN);
        behind("wears ( ( 1 ) ", IN);
        behind("wears ( 1 < 2 ", IN_BEHIND_SIGN);
        behind("wears 1 = ( 2 = 3 ", IN_BEHIND_SIGN);
    }

    private static void fiveOpen() {
        behind("wears ( ( ( ( ", ANY);
        behind("wears not not not not ", ANY);
        behind("wears - - - - ", ONE);
        behind("wears ( ( ( ( ( ", LEAF);
        behind("wears not not not not not ", LEAF);
        behind("wears - - - - - ", LEAF);
        behind("wears not ( - ( - ", LEAF);
        behind("wears not ( not ( not ", LEAF);
        behind("wears ( ( ( ( ( 1 + ", LEAF);
        behind("wears ( ( ( ( ( 1 and ", LEAF);
        behind("wears ( ( ( ( ( 1 < ", LEAF);
        behind("wears not not not not not 1 + ", LEAF);
        behind("wears not not not not not 1 * ", LEAF);
        behind("wears not not not not not 1 < ", LEAF);
        behind("wears not not not not ( 1 or ", LEAF);
        behind("wears ( ( ( ( ( 1 ", IN);
        behind("wears ( ( ( ( ( 1 < 2 ", IN_BEHIND_SIGN);
        behind("wears - - - - - 1 ", BEHIND);
        behind("wears not not not not not 1 ", BEHIND);
        behind("wears not not not not not 1 < 2 ", BEHIND_SIGN);
    }

    /** A ( is open till its ), not and - till what they belong to ends. */
    private static void fiveClosed() {
        behind("wears ( ( ( ( ( 1 ) ", IN);
        behind("wears ( ( ( ( ( 1 ) + ", ONE);
        behind("wears ( ( ( ( ( 1 ) and ", ANY);
        behind("wears ( ( ( ( ( 1 ) ) ) ) ) ", BEHIND);
        behind("wears ( ( ( ( ( 1 ) ) ) ) ) * ( ( ( ( ", ANY);
        behind("wears ( ( ( ( ( 1 ) ) ) ) ) * ( ( ( ( ( ", LEAF);
        behind("wears - - - - - 1 + ", ONE);
        behind("wears - - - - - 1 * - - - - ", ONE);
        behind("wears - - - - - 1 * - - - - - ", LEAF);
        behind("wears not not not not not 1 and ", ANY);
        behind("wears not not not not not 1 < 2 or ", ANY);
        behind("wears not not not not not 1 or not not not not not ", LEAF);
        behind("wears not not not - - 1 + ", ONE);
        behind("wears not not not - - 1 + - - ", LEAF);
        behind("wears not not not ( - 1 ) + ( ", ANY);
        behind("wears not not not ( - 1 + - 2 ) + ( - ", LEAF);
    }

    private static void inEachPart() {
        behind("wears 1;yellows ", ANY);
        behind("wears 1;yellows 1 ", BEHIND);
        behind("wears 1;yellows ( 1 ", IN);
        behind("wears ( ( ( ( ( 1 ) ) ) ) ) ; yellows ( ( ( ( ", ANY);
        behind("wears 1;yellows ( ( ( ( ( ", LEAF);
        behind("wears 1;yellows 1;costs ", ANY);
        behind("wears 1;yellows 1;costs 1 < ", ONE);
        behind("wears 1;yellows 1;costs ( 1 ", IN);
        behind("wears 1;yellows 1;costs not not not not not ", LEAF);
    }
}
