import java.lang.reflect.InvocationTargetException;
import java.lang.reflect.Method;

/** No call throws, whatever its arguments and the object's state, and none makes much that is kept in the room. */
final class EdgesTest {
    private static final int[] EDGES = {Integer.MIN_VALUE, -1, 0, 1, 2, 7, 8, 39, 60, 101, 200, 1001, Integer.MAX_VALUE};
    private static final int[] FEW = {Integer.MIN_VALUE, -1, 0, 1, 255, Integer.MAX_VALUE};

    private EdgesTest() {
    }

    static void tests() throws ReflectiveOperationException {
        for (int state = 0; state < 4; state++) {
            for (Method m : AlwaysTheTopTwo.class.getMethods()) {
                if (m.getDeclaringClass() == AlwaysTheTopTwo.class) {
                    all(m, state);
                }
            }
        }
        room();
    }

    private static AlwaysTheTopTwo in(int state) {
        AlwaysTheTopTwo x = new AlwaysTheTopTwo();
        if (state >= 1) {
            x = Made.of(0, 0, 13, 50, 26, 100, 39, 150, 41, 390);
        }
        if (state >= 2) {
            x.buyBy(0, 0, 0, 0);
            Made.text(x, "wears ((((worn))))*9999*9999 or 1;yellows lain*7-more;costs -week;");
            Made.tell(x, 0, 1, 2, 3, 4, 5, 6, 7, 8);
            x.sheet(1, 0, 40);
            x.film(2, 3);
            x.image();
        }
        if (state >= 3) {
            x.buyBy(1, 0, 0, 8);
            Made.ruled(x, 8, 3, 3, 2);
            for (int k = 0; k < 60; k++) {
                x.live();
            }
            for (int k = 0; k < 5; k++) {
                Made.text(x, "wears 1;yellows 2;costs 3;");
            }
            Made.feed(x, "9".repeat(160));
        }
        return x;
    }

    private static void all(Method m, int state) throws ReflectiveOperationException {
        AlwaysTheTopTwo x = in(state);
        int[] values = m.getParameterCount() > 4 ? FEW : EDGES;
        int many = 1;
        for (int k = 0; k < m.getParameterCount(); k++) {
            many *= values.length;
        }
        int thrown = 0;
        Object[] args = new Object[m.getParameterCount()];
        for (int c = 0; c < many; c++) {
            int rest = c;
            for (int k = 0; k < args.length; k++) {
                args[k] = values[rest % values.length];
                rest /= values.length;
            }
            try {
                m.invoke(x, args);
            } catch (InvocationTargetException e) {
                thrown++;
                System.out.println(m.getName() + java.util.Arrays.toString(args) + " threw " + e.getCause());
            }
        }
        Tally.due("thrown by " + m.getName(), thrown, 0);
    }

    /** The rows are made with the object: what 512 calls make stays far below what the room holds. */
    private static void room() {
        com.sun.management.ThreadMXBean bean =
            (com.sun.management.ThreadMXBean) java.lang.management.ManagementFactory.getThreadMXBean();
        AlwaysTheTopTwo x = in(2);
        long ahead = 0;
        for (int k = 0; k < 20; k++) {
            if (k == 10) {
                ahead = bean.getThreadAllocatedBytes(Thread.currentThread().getId());
            }
            x.odds(5, 200, 3050, 0);
            x.when(0, 60, 0);
            x.rulesOf(0, 200);
            x.kinds(0, 200, 1);
            x.rules(200, 0);
            x.sheet(3, 2, 40);
            x.film(2, 200);
            Made.text(x, "wears 1;yellows 2;costs 3");
            x.image();
            x.back();
        }
        long made = bean.getThreadAllocatedBytes(Thread.currentThread().getId()) - ahead;
        Tally.holds("ten of the dearest calls made " + made + " bytes", made < 20000);
    }
}
