/** Objects as the tests need them. */
final class Made {
    private Made() {
    }

    /** LINEN by pairs: 10 times KIND and MORE, WORN; laid on the top, so that the last lies there. */
    static AlwaysTheTopTwo of(int... pairs) {
        AlwaysTheTopTwo x = new AlwaysTheTopTwo();
        for (int k = 0; k < pairs.length; k += 2) {
            x.buy(pairs[k], pairs[k + 1]);
        }
        return x;
    }

    static AlwaysTheTopTwo ruled(AlwaysTheTopTwo x, int wanted, int wash, int taken, int laid) {
        x.set(0, wanted);
        x.set(1, wash);
        x.set(2, taken);
        x.set(3, laid);
        return x;
    }

    static void feed(AlwaysTheTopTwo x, String text) {
        for (int k = 0; k < text.length(); k += 5) {
            int n = Math.min(5, text.length() - k);
            x.feed(n, at(text, k), at(text, k + 1), at(text, k + 2), at(text, k + 3), at(text, k + 4));
        }
    }

    private static int at(String text, int k) {
        return k < text.length() ? text.charAt(k) : 0;
    }

    static int text(AlwaysTheTopTwo x, String text) {
        feed(x, text);
        return x.text();
    }

    static AlwaysTheTopTwo byLaw(AlwaysTheTopTwo x, String text) {
        x.force(text(x, text));
        return x;
    }

    /** A SHEET of ints that tells these numbers. */
    static void tell(AlwaysTheTopTwo x, int s, int... numbers) {
        x.sheet(s, 2, numbers.length);
        for (int i = 0; i < numbers.length; i++) {
            x.cell(s, i, numbers[i]);
        }
    }

    /** THE PILE from the top, a digit each, behind a 1. */
    static long pile(AlwaysTheTopTwo x) {
        long digits = 1;
        for (int place = 0; place < x.count(1); place++) {
            digits = digits * 10 + x.lies(place);
        }
        return digits;
    }
}
