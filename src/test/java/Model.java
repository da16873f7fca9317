import java.util.ArrayList;
import java.util.Comparator;
import java.util.List;
import java.util.function.IntPredicate;
import java.util.function.ToIntFunction;

/**
 * The document once more, in another way: KINDS are classes, a world is copied whole for each thought,
 * a TEXT is a tree, and a refusal is thrown. Slow; it is there to be compared with.
 */
final class Model {
    static final class Refusal extends RuntimeException {
        private static final long serialVersionUID = 1L;
        final int answer;

        Refusal(int answer) {
            super(null, null, false, false);
            this.answer = answer;
        }
    }

    private static void demand(boolean is, int answer) {
        if (!is) {
            throw new Refusal(answer);
        }
    }

    private static boolean in(long v, long least, long most) {
        return least <= v && v <= most;
    }

    // ---- KINDS

    static class Plain implements Cloneable {
        int more;
        int worn;
        int yellow;
        int lain;
        boolean turned;
        int away;
        boolean cloths;

        int wears(int said) {
            return said;
        }

        int yellows(int said) {
            return said;
        }

        int lasts() {
            return 400;
        }

        int number() {
            return 0;
        }

        @Override
        public Plain clone() {
            try {
                return (Plain) super.clone();
            } catch (CloneNotSupportedException e) {
                throw new IllegalStateException(e);
            }
        }
    }

    static class Fine extends Plain {
        @Override
        int wears(int said) {
            return super.wears(said) - more / 2;
        }

        @Override
        int yellows(int said) {
            return super.yellows(said) + 1;
        }

        @Override
        int number() {
            return 1;
        }
    }

    static class Thin extends Plain {
        @Override
        int wears(int said) {
            return super.wears(said) + (worn > 200 ? more : 0);
        }

        @Override
        int lasts() {
            return super.lasts() - 20 * more;
        }

        @Override
        int number() {
            return 2;
        }
    }

    static class Wedding extends Fine {
        @Override
        int yellows(int said) {
            return super.yellows(said) * (lain > 10 ? 2 : 1);
        }

        @Override
        int lasts() {
            return super.lasts() + 10 * more;
        }

        @Override
        int number() {
            return 3;
        }
    }

    static class Darned extends Thin {
        @Override
        int wears(int said) {
            return super.wears(said) + 2;
        }

        @Override
        int lasts() {
            return super.lasts() + 100;
        }

        @Override
        int number() {
            return 4;
        }
    }

    static class Cot extends Plain {
        @Override
        int wears(int said) {
            return super.wears(said) / 2;
        }

        @Override
        int lasts() {
            return 150 + 10 * more;
        }

        @Override
        int number() {
            return 5;
        }
    }

    private static Plain ofKind(int kind) {
        Plain[] one = {new Plain(), new Fine(), new Thin(), new Wedding(), new Darned(), new Cot()};
        return one[kind];
    }

    private static Plain asKind(Plain old, int kind, int more) {
        Plain p = ofKind(kind);
        p.more = more;
        p.worn = old.worn;
        p.yellow = old.yellow;
        p.lain = old.lain;
        p.turned = old.turned;
        p.away = old.away;
        p.cloths = old.cloths;
        return p;
    }

    // ---- TEXTS

    private interface E {
        int of(int[] named);
    }

    private static final List<String> NAMES = List.of("worn", "lain", "more", "turned", "week", "wanted");
    private static final List<String> KEYS = List.of("wears", "yellows", "costs", "and", "or", "not");

    static final class Text {
        private final List<E> parts = new ArrayList<>();

        int says(int part, int... named) {
            return Math.max(0, Math.min(99, parts.get(part).of(named)));
        }
    }

    /** Tokens are cut all at once; a wrong one stays as "?", which fits nowhere. */
    private static final class Reading {
        private final List<String> tokens = new ArrayList<>();
        private final List<Integer> places = new ArrayList<>();
        private int at = 0;
        private int open = 0;

        Reading(String tape) {
            int k = 0;
            while (k < tape.length()) {
                char c = tape.charAt(k);
                int end = k + 1;
                if (c != ' ' && c != '\n') {
                    end = k + run(tape.substring(k));
                    String token = tape.substring(k, end);
                    places.add(k);
                    tokens.add(fits(token) ? token : "?");
                }
                k = end;
            }
            places.add(tape.length());
            tokens.add("");
        }

        private static int run(String rest) {
            int letters = rest.length() - rest.replaceFirst("^[a-z]+", "").length();
            int digits = rest.length() - rest.replaceFirst("^[0-9]+", "").length();
            return Math.max(1, Math.max(letters, digits));
        }

        private static boolean fits(String token) {
            return NAMES.contains(token) || KEYS.contains(token) || token.matches("[0-9]{1,4}|[();+*<=-]");
        }

        private boolean sees(String token) {
            return tokens.get(at).equals(token);
        }

        private String eat() {
            return tokens.get(at++);
        }

        private void must(String token) {
            demand(sees(token), -100 - places.get(at));
            at++;
        }

        private void opens() {
            demand(open < 5, -100 - places.get(at));
            open++;
            at++;
        }

        Text text() {
            Text text = new Text();
            for (String key : KEYS.subList(0, 3)) {
                must(key);
                text.parts.add(either());
                must(";");
            }
            demand(sees(""), -100 - places.get(at));
            return text;
        }

        private E either() {
            E left = both();
            while (sees("or")) {
                eat();
                E a = left;
                E b = both();
                left = n -> a.of(n) != 0 | b.of(n) != 0 ? 1 : 0;
            }
            return left;
        }

        private E both() {
            E left = not();
            while (sees("and")) {
                eat();
                E a = left;
                E b = not();
                left = n -> a.of(n) != 0 & b.of(n) != 0 ? 1 : 0;
            }
            return left;
        }

        private E not() {
            if (sees("not")) {
                opens();
                E a = not();
                open--;
                return n -> a.of(n) == 0 ? 1 : 0;
            }
            E a = sum();
            if (sees("<")) {
                eat();
                E b = sum();
                return n -> a.of(n) < b.of(n) ? 1 : 0;
            }
            if (sees("=")) {
                eat();
                E b = sum();
                return n -> a.of(n) == b.of(n) ? 1 : 0;
            }
            return a;
        }

        private E sum() {
            E left = term();
            while (sees("+") || sees("-")) {
                int sign = eat().equals("+") ? 1 : -1;
                E a = left;
                E b = term();
                left = n -> a.of(n) + sign * b.of(n);
            }
            return left;
        }

        private E term() {
            E left = one();
            while (sees("*")) {
                eat();
                E a = left;
                E b = one();
                left = n -> a.of(n) * b.of(n);
            }
            return left;
        }

        private E one() {
            if (sees("-")) {
                opens();
                E a = one();
                open--;
                return n -> -a.of(n);
            }
            if (sees("(")) {
                opens();
                E a = either();
                must(")");
                open--;
                return a;
            }
            int name = NAMES.indexOf(tokens.get(at));
            if (name >= 0) {
                eat();
                return n -> n[name];
            }
            demand(tokens.get(at).matches("[0-9]+"), -100 - places.get(at));
            int number = Integer.parseInt(eat());
            return n -> number;
        }
    }

    // ---- a world, and its weeks

    static final class World {
        List<Plain> linen = new ArrayList<>();
        List<Plain> pile = new ArrayList<>();
        int wanted = 2;
        int wash = 1;
        int taken = 0;
        int laid = 0;
        int week = 0;
        Text law;
        int tooFew = 0;
        List<Integer> fewOfWeeks = new ArrayList<>();
        List<Integer> clothsOfWeeks = new ArrayList<>();
        List<Plain> out = new ArrayList<>();

        World copy() {
            World w = new World();
            for (Plain p : linen) {
                w.linen.add(p.clone());
            }
            for (Plain p : pile) {
                w.pile.add(w.linen.get(linen.indexOf(p)));
            }
            w.wanted = wanted;
            w.wash = wash;
            w.taken = taken;
            w.laid = laid;
            w.week = week;
            w.law = law;
            return w;
        }

        int[] named(Plain p) {
            return new int[] {p.worn, p.lain, p.more, p.turned ? 1 : 0, week, wanted};
        }

        void lay(Plain p) {
            int at = 0;
            if (laid == 1) {
                at = pile.size();
            }
            if (laid == 2) {
                while (at < pile.size() && linen.indexOf(pile.get(at)) < linen.indexOf(p)) {
                    at++;
                }
            }
            pile.add(at, p);
        }

        Plain toTake(int how) {
            switch (how) {
                case 0: return pile.get(0);
                case 1: return pile.get(pile.size() - 1);
                case 2: return pile.stream().min(Comparator.comparingInt(p -> p.worn)).get();
                default: return pile.stream().min(Comparator.comparingInt(p -> -p.lain)).get();
            }
        }

        int cloths() {
            return (int) linen.stream().filter(p -> p.cloths).count();
        }

        int left() {
            return linen.size() - cloths();
        }

        int bitsOf(List<Plain> some) {
            int bits = 0;
            for (Plain p : some) {
                bits |= 1 << linen.indexOf(p);
            }
            return bits;
        }

        World week(int guests, int how) {
            for (Plain p : linen) {
                if (!p.cloths && p.away > 0 && --p.away == 0) {
                    lay(p);
                }
            }
            List<Plain> worked = new ArrayList<>();
            while (worked.size() < guests && !pile.isEmpty()) {
                Plain p = toTake(how);
                pile.remove(p);
                worked.add(p);
            }
            int few = guests - worked.size();
            for (Plain p : pile) {
                p.yellow = Math.min(99, p.yellow + Math.max(0, p.yellows(law.says(1, named(p)))));
                p.lain = Math.min(999, p.lain + 1);
            }
            worked.sort(Comparator.comparingInt(linen::indexOf));
            for (Plain p : worked) {
                p.worn = Math.min(999, p.worn + Math.max(0, p.wears(law.says(0, named(p)))));
                p.lain = 0;
                p.away = wash;
                p.cloths = p.worn >= p.lasts();
                if (!p.cloths && wash == 0) {
                    lay(p);
                }
            }
            for (Plain p : pile) {
                p.cloths = p.yellow == 99;
            }
            pile.removeIf(p -> p.cloths);
            week++;
            tooFew += few;
            out.addAll(worked);
            fewOfWeeks.add(few);
            clothsOfWeeks.add(cloths());
            return this;
        }

        World weeks(int n) {
            for (int k = 0; k < n; k++) {
                week(wanted, taken);
            }
            return this;
        }

        World byLot(int seed, int n, int odds) {
            long lot = seed + 1L;
            for (int k = 0; k < n; k++) {
                lot = lot * 48271 % 2147483647;
                week(wanted, lot % 100 < odds ? 0 : taken);
            }
            return this;
        }

        int first(int clothsAhead) {
            for (int k = 0; k < clothsOfWeeks.size(); k++) {
                if (clothsOfWeeks.get(k) > clothsAhead) {
                    return k;
                }
            }
            return -1;
        }

        void turn(int i) {
            linen.get(i).worn /= 2;
            linen.get(i).turned = true;
        }

        boolean canTurn(int i) {
            return pile.contains(linen.get(i)) && !linen.get(i).turned;
        }
    }

    private World now = new World();
    private World kept = null;
    private final List<Text> texts = new ArrayList<>();
    private StringBuilder tape = new StringBuilder();
    private final Object[] sheets = new Object[4];

    Model() {
        texts.add(new Reading("wears 10 ; yellows 1 ; costs 50 ;").text());
        now.law = texts.get(0);
    }

    private World thought(int n) {
        return now.copy().weeks(n);
    }

    private void linen(int i) {
        demand(in(i, 0, now.linen.size() - 1), -5);
    }

    int count(int what) {
        demand(in(what, 0, 9), -2);
        int[] all = {now.linen.size(), now.pile.size(), now.wanted, now.wash, now.taken, now.laid, now.week,
            texts.size(), texts.indexOf(now.law), tape.length()};
        return all[what];
    }

    int set(int what, int v) {
        demand(in(what, 0, 3), -5);
        demand(in(v, 0, new int[] {8, 3, 3, 2}[what]), -7);
        int was = count(2 + what);
        now.wanted = what == 0 ? v : now.wanted;
        now.wash = what == 1 ? v : now.wash;
        now.taken = what == 2 ? v : now.taken;
        now.laid = what == 3 ? v : now.laid;
        return was;
    }

    int feed(int n, int a, int b, int c, int d, int e) {
        int[] five = {a, b, c, d, e};
        demand(in(n, 1, 5), -2);
        for (int v : five) {
            demand(in(v, 0, 255), -2);
        }
        demand(tape.length() + n <= 160, -4);
        for (int k = 0; k < n; k++) {
            tape.append((char) five[k]);
        }
        return tape.length();
    }

    int text() {
        demand(texts.size() < 6, -4);
        String read = tape.toString();
        tape = new StringBuilder();
        texts.add(new Reading(read).text());
        return texts.size() - 1;
    }

    int force(int t) {
        demand(in(t, 0, texts.size() - 1), -2);
        int was = texts.indexOf(now.law);
        now.law = texts.get(t);
        return was;
    }

    int asks(int part, int worn, int lain, int moreTurned) {
        demand(in(part, 0, 2) && in(worn, 0, 999) && in(lain, 0, 999) && in(moreTurned, 0, 99), -2);
        demand(moreTurned % 10 < 2, -2);
        return now.law.says(part, worn, lain, moreTurned / 10, moreTurned % 10, now.week, now.wanted);
    }

    int buy(int kindMore, int worn) {
        demand(in(kindMore, 0, 59) && in(worn, 0, 999), -2);
        demand(now.linen.size() < 8, -4);
        Plain p = ofKind(kindMore / 10);
        p.more = kindMore % 10;
        p.worn = worn;
        now.linen.add(p);
        now.lay(p);
        return now.linen.size() - 1;
    }

    int told(int i, int what) {
        linen(i);
        demand(in(what, 0, 7), -7);
        Plain p = now.linen.get(i);
        int[] all = {p.number(), p.more, p.worn, p.yellow, p.lain, p.turned ? 1 : 0, p.cloths ? -1 : p.away, p.lasts()};
        return all[what];
    }

    int put(int i, int what, int v) {
        linen(i);
        demand(in(what, 0, 2) && in(v, 0, new int[] {999, 99, 999}[what]), -7);
        int was = told(i, 2 + what);
        Plain p = now.linen.get(i);
        p.worn = what == 0 ? v : p.worn;
        p.yellow = what == 1 ? v : p.yellow;
        p.lain = what == 2 ? v : p.lain;
        return was;
    }

    int lies(int place) {
        demand(in(place, 0, now.pile.size() - 1), -6);
        return now.linen.indexOf(now.pile.get(place));
    }

    int turn(int i) {
        linen(i);
        demand(now.canTurn(i), -3);
        now.turn(i);
        return now.linen.get(i).worn;
    }

    int next() {
        demand(!now.pile.isEmpty(), -1);
        return now.linen.indexOf(now.toTake(now.taken));
    }

    int pileUp(int how) {
        demand(in(how, 0, 3), -2);
        List<Plain> anew = new ArrayList<>();
        for (Plain p : now.pile) {
            if (how == 3) {
                anew.add(0, p);
            } else {
                anew.add(p);
            }
        }
        if (how < 3) {
            ToIntFunction<Plain> mark = p -> how == 0 ? p.worn : how == 1 ? -p.worn : now.linen.indexOf(p);
            anew.sort(Comparator.comparingInt(mark));
        }
        now.pile = anew;
        return anew.isEmpty() ? -1 : lies(0);
    }

    int live() {
        demand(now.week < 999, -4);
        now.week(now.wanted, now.taken);
        return now.fewOfWeeks.get(now.fewOfWeeks.size() - 1);
    }

    int run(int n, int what) {
        demand(in(n, 0, 200) && in(what, 0, 4), -2);
        World w = thought(n);
        int most = w.linen.stream().mapToInt(p -> p.worn).max().orElse(-1);
        return new int[] {w.left(), w.first(now.cloths()), w.tooFew, w.bitsOf(w.out), most}[what];
    }

    int then(int i, int n, int what) {
        linen(i);
        demand(in(n, 0, 200) && in(what, 0, 1), -7);
        Plain p = thought(n).linen.get(i);
        return what == 0 ? p.worn : p.yellow;
    }

    int cost(int n) {
        demand(in(n, 0, 200), -2);
        return thought(n).tooFew * now.law.says(2, 0, 0, 0, 0, now.week, now.wanted);
    }

    int rules(int n, int goal) {
        demand(in(n, 0, 200) && in(goal, 0, 1), -2);
        List<int[]> all = new ArrayList<>();
        for (int taken = 0; taken < 4; taken++) {
            for (int laid = 0; laid < 3; laid++) {
                World w = now.copy();
                w.taken = taken;
                w.laid = laid;
                w.weeks(n);
                int first = w.first(now.cloths());
                all.add(new int[] {10 * taken + laid, -w.left(), first < 0 ? -n : -first, w.tooFew});
            }
        }
        Comparator<int[]> lasting = Comparator.<int[]>comparingInt(a -> a[1]).thenComparingInt(a -> a[2]);
        return all.stream().min(goal == 0 ? lasting : Comparator.comparingInt(a -> a[3])).get()[0];
    }

    int which(int n) {
        demand(in(n, 0, 200), -2);
        int best = -1;
        int most = thought(n).left();
        for (int i = 0; i < now.linen.size(); i++) {
            if (now.canTurn(i)) {
                World w = now.copy();
                w.turn(i);
                int left = w.weeks(n).left();
                best = left > most ? i : best;
                most = Math.max(left, most);
            }
        }
        return best;
    }

    /** In which week from where w is: -1 if it can't be turned ahead of week at. */
    private int endIfTurned(int i, int n, int at) {
        World w = thought(at);
        if (!w.canTurn(i)) {
            return -1;
        }
        w.turn(i);
        return end(w, i, at, n);
    }

    private static int end(World w, int i, int at, int n) {
        boolean was = w.linen.get(i).cloths;
        for (int k = at; k < n; k++) {
            w.weeks(1);
            if (w.linen.get(i).cloths && !was) {
                return k;
            }
        }
        return n;
    }

    int when(int i, int n, int what) {
        linen(i);
        demand(in(n, 1, 60) && in(what, 0, 1), -7);
        int at = -1;
        int latest = -1;
        for (int k = 0; k < n; k++) {
            int end = endIfTurned(i, n, k);
            if (end > latest) {
                latest = end;
                at = k;
            }
        }
        return what == 0 ? at : at >= 0 ? latest : end(now.copy(), i, 0, n);
    }

    private World were(int what, int v, int n) {
        World w = now.copy();
        w.wanted = what == 0 ? v : w.wanted;
        w.wash = what == 1 ? v : w.wash;
        return w.weeks(n);
    }

    int enough(int n) {
        demand(in(n, 0, 200), -2);
        for (int v = 1; v <= 8; v++) {
            if (were(0, v, n).tooFew > 0) {
                return v - 1;
            }
        }
        return 8;
    }

    int feast(int n, int at, int guests) {
        demand(in(n, 1, 200) && in(at, 0, n - 1) && in(guests, 0, 8), -1000000);
        World w = now.copy();
        for (int k = 0; k < n; k++) {
            w.week(k == at ? guests : w.wanted, w.taken);
        }
        return w.tooFew - thought(n).tooFew;
    }

    int laundry(int n) {
        demand(in(n, 0, 200), -2);
        for (int v = 3; v >= 0; v--) {
            if (were(1, v, n).tooFew == 0) {
                return v;
            }
        }
        return -1;
    }

    private void telling(int s) {
        demand(in(s, 0, 3), -2);
        demand(sheets[s] != null, -11);
        demand(row(s).length == now.linen.size(), -2);
    }

    private void telling(int s, int n) {
        telling(s);
        demand(in(n, 0, 200), -7);
    }

    private int[] row(int s) {
        Object o = sheets[s];
        int size = java.lang.reflect.Array.getLength(o);
        int[] row = new int[size];
        for (int i = 0; i < size; i++) {
            row[i] = java.lang.reflect.Array.getInt(o, i);
        }
        return row;
    }

    private int otherwise(int s, World w) {
        for (int i = 0; i < w.linen.size(); i++) {
            if (w.linen.get(i).worn != row(s)[i]) {
                return i;
            }
        }
        return -1;
    }

    private static int bits(int end, IntPredicate is) {
        int bits = 0;
        for (int v = 0; v < end; v++) {
            bits |= is.test(v) ? 1 << v : 0;
        }
        return bits;
    }

    int judge(int s, int n) {
        telling(s, n);
        return otherwise(s, thought(n));
    }

    int rulesOf(int s, int n) {
        telling(s, n);
        return bits(12, v -> {
            World w = now.copy();
            w.taken = v / 3;
            w.laid = v % 3;
            return otherwise(s, w.weeks(n)) == -1;
        });
    }

    int kinds(int s, int n, int sheetSort) {
        telling(s, n);
        int i = Math.floorDiv(sheetSort, 10);
        int sort = Math.floorMod(sheetSort, 10);
        linen(i);
        demand(in(sort, 0, 1), -7);
        return bits(sort == 0 ? 6 : 10, v -> {
            World w = now.copy();
            Plain old = w.linen.get(i);
            Plain is = asKind(old, sort == 0 ? v : old.number(), sort == 1 ? v : old.more);
            w.linen.set(i, is);
            w.pile.replaceAll(p -> p == old ? is : p);
            return otherwise(s, w.weeks(n)) == -1;
        });
    }

    int wants(int s, int n, int sort) {
        telling(s, n);
        demand(in(sort, 0, 1), -7);
        return bits(sort == 0 ? 9 : 4, v -> otherwise(s, were(sort, v, n)) == -1);
    }

    int weeks(int s, int what) {
        telling(s);
        demand(in(what, 0, 1), -7);
        List<Integer> fit = new ArrayList<>();
        for (int n = 0; n <= 60; n++) {
            if (otherwise(s, thought(n)) == -1) {
                fit.add(n);
            }
        }
        return what == 1 ? fit.size() : fit.isEmpty() ? -1 : fit.get(0);
    }

    int laws(int s, int n) {
        telling(s, n);
        return bits(texts.size(), t -> {
            World w = now.copy();
            w.law = texts.get(t);
            return otherwise(s, w.weeks(n)) == -1;
        });
    }

    int film(int s, int n) {
        demand(in(s, 0, 3) && in(n, 0, 200), -2);
        World w = thought(n);
        short[] row = new short[w.linen.size()];
        for (int i = 0; i < row.length; i++) {
            row[i] = (short) w.linen.get(i).worn;
        }
        sheets[s] = row;
        return row.length;
    }

    int drawn(int seed, int n, int oddsWhat) {
        demand(in(seed, 0, 99999) && in(n, 0, 200) && in(oddsWhat, 0, 1009) && oddsWhat % 10 < 4, -2);
        World w = now.copy().byLot(seed, n, oddsWhat / 10);
        List<Plain> never = new ArrayList<>(w.linen);
        never.removeAll(w.out);
        int together = w.linen.stream().mapToInt(p -> p.worn).sum();
        return new int[] {w.left(), w.tooFew, w.bitsOf(never), together}[oddsWhat % 10];
    }

    long odds(int seed, int n, int seedsOdds, int part) {
        boolean is = in(seed, 0, 99999) && in(n, 0, 200) && in(seedsOdds, 100, 3099) && in(part, 0, 1);
        if (!is) {
            return -4611686018427387904L;
        }
        int seeds = seedsOdds / 100;
        int hits = 0;
        for (int k = 0; k < seeds; k++) {
            hits += now.copy().byLot(seed + k, n, seedsOdds % 100).left() >= thought(n).left() ? 1 : 0;
        }
        int by = java.math.BigInteger.valueOf(hits).gcd(java.math.BigInteger.valueOf(seeds)).intValue();
        return (part == 0 ? hits : seeds) / by;
    }

    int image() {
        kept = now.copy();
        return kept.linen.size();
    }

    int back() {
        demand(kept != null, -3);
        now = kept.copy();
        return now.linen.size();
    }

    int sheet(int s, int sort, int n) {
        demand(in(s, 0, 3) && in(sort, -1, 2), -2);
        if (sort == -1) {
            sheets[s] = null;
            return 1;
        }
        demand(n <= 40, -2);
        demand(n >= 0, -14);
        sheets[s] = sort == 0 ? new byte[n] : sort == 1 ? new short[n] : new int[n];
        return 1;
    }

    int cell(int s, int i, int v) {
        demand(in(s, 0, 3), -2);
        demand(sheets[s] != null, -11);
        demand(in(i, 0, row(s).length - 1), -12);
        if (sheets[s] instanceof byte[]) {
            ((byte[]) sheets[s])[i] = (byte) v;
        } else if (sheets[s] instanceof short[]) {
            ((short[]) sheets[s])[i] = (short) v;
        } else {
            ((int[]) sheets[s])[i] = v;
        }
        return 1;
    }

    int copy(int s, int i, int other, int j, int n) {
        demand(in(s, 0, 3) && in(other, 0, 3), -2);
        demand(sheets[s] != null && sheets[other] != null, -11);
        demand(sheets[s].getClass() == sheets[other].getClass(), -13);
        try {
            System.arraycopy(sheets[s], i, sheets[other], j, n);
        } catch (IndexOutOfBoundsException e) {
            return -12;
        }
        return n;
    }

    int buyBy(int s, int sort, int at, int n) {
        demand(in(s, 0, 3) && in(sort, 0, 2) && in(n, 0, 8), -2);
        demand(sheets[s] != null, -11);
        demand(sheets[s].getClass() == new Class<?>[] {byte[].class, short[].class, int[].class}[sort], -13);
        int came = 0;
        int[] row = row(s);
        for (long k = at; k < at + 2L * n; k += 2) {
            demand(in(k, 0, row.length - 1) && in(k + 1, 0, row.length - 1), -12);
            try {
                buy(row[(int) k], row[(int) k + 1]);
                came++;
            } catch (Refusal e) {
                // left out, as the document says
            }
        }
        return came;
    }

    int taken(int i, int kind) {
        demand(in(kind, 0, 6), -2);
        demand(in(i, 0, 15), -12);
        Object lies = i < 8
            ? i < now.pile.size() ? now.pile.get(i) : null
            : i - 8 < now.linen.size() ? (Object) now.linen.get(i - 8).worn : null;
        demand(lies != null, -11);
        if (kind == 6) {
            demand(lies instanceof Integer, -13);
            return (Integer) lies;
        }
        demand(ofKind(kind).getClass().isInstance(lies), -13);
        return now.linen.indexOf(lies);
    }
}
