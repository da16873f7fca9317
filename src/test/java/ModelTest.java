import java.lang.reflect.InvocationTargetException;
import java.lang.reflect.Method;
import java.util.HashMap;
import java.util.Map;

/** Long runs of calls by lot, on the program and on the Model, answer by answer. */
final class ModelTest {
    /**
     * A call, how often it is drawn, and for each argument from where to where it usually is;
     * with a slash: what stands in tens (of odds: in hundreds), and what stands below them.
     */
    private static final String[] CALLS = {
        "count 3 0:9", "set 8 0:3 0:3", "set 2 0:0 0:8", "feed 1 1:5 0:255 0:255 0:255 0:255 0:255", "text 1",
        "force 4 0:5", "force 3 0:0", "asks 3 0:2 0:999 0:999 0:9/0:1", "buy 8 0:5/0:9 0:500", "told 10 0:7 0:7",
        "put 3 0:7 0:1 0:99", "put 4 0:7 0:0 0:500", "put 3 0:7 2:2 0:999", "put 1 0:7 1:1 80:99", "lies 3 0:7",
        "turn 3 0:7", "next 3", "pileUp 3 0:3", "live 6", "run 10 0:90 0:4", "run 5 0:20 0:4", "then 5 0:7 0:90 0:1",
        "cost 2 0:60", "rules 6 0:90 0:1", "which 6 0:90", "when 8 0:7 1:60 0:1", "enough 4 0:40", "feast 5 1:60 0:30 0:8",
        "laundry 4 0:40", "judge 1 0:3 0:9", "rulesOf 1 0:3 0:20", "kinds 1 0:3 0:9 0:7/0:1", "wants 1 0:3 0:20 0:1",
        "weeks 1 0:3 0:1", "laws 1 0:3 0:20", "film 2 0:3 0:12", "drawn 8 0:99999 0:90 0:100/0:3",
        "odds 5 0:99999 0:60 1:30/0:99 0:1", "image 1", "back 2", "sheet 4 0:3 -1:2 0:40", "cell 6 0:3 0:9 0:59",
        "cell 2 0:3 0:9 -70000:70000", "copy 4 0:3 0:9 0:3 0:9 0:9", "buyBy 2 0:3 0:2 0:9 0:8", "taken 5 0:15 0:6",
    };
    /** What is asked of a SHEET of film(), behind about as many WEEKS. */
    private static final String[] TOLD = {"judge", "rulesOf", "kinds", "wants", "weeks", "laws"};
    private static final int RUNS = 500;
    private static final int STEPS = 250;

    private static final String[] WORDS = {"worn", "lain", "more", "turned", "week", "wanted"};
    private static final String[] PIECES = {
        "(", ")", ";", "+", "-", "*", "<", "=", " ", "\n", "and", "or", "not", "wears", "yellows", "costs", "worn",
        "lain", "x", "7", "12345", "A", "0010",
    };

    private final Map<String, Method> ours = new HashMap<>();
    private final Map<String, Method> models = new HashMap<>();
    private long lot;
    private AlwaysTheTopTwo x;
    private Model y;
    private int seed;
    private int calls;

    static void tests() throws ReflectiveOperationException {
        ModelTest t = new ModelTest();
        for (Method m : AlwaysTheTopTwo.class.getMethods()) {
            if (m.getDeclaringClass() == AlwaysTheTopTwo.class) {
                t.ours.put(m.getName(), m);
                t.models.put(m.getName(), Model.class.getDeclaredMethod(m.getName(), m.getParameterTypes()));
            }
        }
        for (int seed = 1; seed <= RUNS; seed++) {
            t.run(seed);
        }
    }

    private void run(int newSeed) throws ReflectiveOperationException {
        seed = newSeed;
        lot = newSeed * 7919L;
        x = new AlwaysTheTopTwo();
        y = new Model();
        calls = 0;
        int sum = 0;
        for (String call : CALLS) {
            sum += Integer.parseInt(call.split(" ")[1]);
        }
        for (int k = below(9); k > 0; k--) {
            both("buy", 10 * below(6) + below(10), below(450));
        }
        both("image");
        while (calls < STEPS) {
            int rare = below(50);
            if (rare == 0) {
                feedText();
            } else if (rare < 4) {
                filmAndAsk();
            } else {
                int k = below(sum);
                int c = 0;
                while (k >= Integer.parseInt(CALLS[c].split(" ")[1])) {
                    k -= Integer.parseInt(CALLS[c].split(" ")[1]);
                    c++;
                }
                call(CALLS[c].split(" "));
            }
        }
    }

    private int below(int end) {
        lot = lot * 6364136223846793005L + 1442695040888963407L;
        return (int) Long.remainderUnsigned(lot >>> 17, end);
    }

    private void call(String[] parts) throws ReflectiveOperationException {
        Object[] args = new Object[parts.length - 2];
        for (int k = 0; k < args.length; k++) {
            String[] ranges = parts[k + 2].split("/");
            args[k] = drawn(ranges[0]);
            if (ranges.length > 1) {
                args[k] = drawn(ranges[0]) * (parts[0].equals("odds") ? 100 : 10) + drawn(ranges[1]);
            }
        }
        both(parts[0], args);
    }

    private void filmAndAsk() throws ReflectiveOperationException {
        int s = below(4);
        int n = below(14);
        both("film", s, n);
        for (String told : TOLD) {
            int of = Math.max(0, n - 1 + below(3));
            if (told.equals("kinds")) {
                both(told, s, of, 10 * below(8) + below(2));
            } else if (told.equals("wants")) {
                both(told, s, of, below(2));
            } else {
                both(told, s, told.equals("weeks") ? below(2) : of);
            }
        }
    }

    private int drawn(String range) {
        int least = Integer.parseInt(range.split(":")[0]);
        int most = Integer.parseInt(range.split(":")[1]);
        if (below(18) > 0) {
            return least + below(most - least + 1);
        }
        int[] edges = {least, most, least - 1, most + 1, 200, 201, -1, Integer.MIN_VALUE, Integer.MAX_VALUE, 60, 61};
        return edges[below(edges.length)];
    }

    private void both(String name, Object... args) throws ReflectiveOperationException {
        calls++;
        long got = ((Number) ours.get(name).invoke(x, args)).longValue();
        long due;
        try {
            due = ((Number) models.get(name).invoke(y, args)).longValue();
        } catch (InvocationTargetException e) {
            if (!(e.getCause() instanceof Model.Refusal)) {
                throw e;
            }
            due = ((Model.Refusal) e.getCause()).answer;
        }
        Tally.due("lot " + seed + ", call " + calls + ": " + name + java.util.Arrays.toString(args), got, due);
    }

    private void feedText() throws ReflectiveOperationException {
        both("text");
        String text = "wears " + e(3) + " ; yellows " + e(2) + " ;costs " + e(2) + ";";
        for (int k = below(3); k > 0; k--) {
            int at = below(text.length() + 1);
            int until = Math.min(text.length(), at + below(4));
            text = text.substring(0, at) + PIECES[below(PIECES.length)] + text.substring(until);
        }
        for (int k = 0; k < text.length() && k < 165; k += 5) {
            int[] five = new int[5];
            int n = Math.min(5, text.length() - k);
            for (int j = 0; j < n; j++) {
                five[j] = text.charAt(k + j);
            }
            both("feed", n, five[0], five[1], five[2], five[3], five[4]);
        }
        both("count", 9);
        both("text");
        both("force", below(2) * (x.count(7) - 1));
    }

    /** A right E, of more nesting now and then than a TEXT may have. */
    private String e(int deep) {
        switch (below(deep > 0 ? 12 : 3)) {
            case 0: return "" + below(30);
            case 1: return WORDS[below(6)];
            case 2: return "" + below(10000);
            case 3: return e(deep - 1) + "+" + e(deep - 1);
            case 4: return e(deep - 1) + " - " + e(deep - 1);
            case 5: return e(deep - 1) + "*" + e(deep - 1);
            case 6: return "(" + e(deep - 1) + "<" + e(deep - 1) + ")";
            case 7: return "(" + e(deep - 1) + " = " + e(deep - 1) + ")";
            case 8: return "-" + e(deep - 1);
            case 9: return "not " + e(deep - 1);
            case 10: return e(deep - 1) + " and " + e(deep - 1);
            default: return "(" + e(deep - 1) + " or " + e(deep - 1) + ")";
        }
    }
}
