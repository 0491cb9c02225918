import java.lang.management.ManagementFactory;
import java.lang.reflect.InvocationTargetException;
import java.lang.reflect.Method;
import java.lang.reflect.Modifier;
import java.util.ArrayList;
import java.util.Comparator;
import java.util.List;
import java.util.Random;

/** No call throws, whatever it is given; and no call makes objects: all rows are the constructor's. */
public final class RoomTest {
    private static final int[] EDGES = {Integer.MIN_VALUE, Integer.MIN_VALUE + 1, -1000001, -1000000, -101, -100, -25,
        -24, -13, -12, -2, -1, 0, 1, 2, 3, 4, 5, 6, 7, 8, 9, 12, 13, 16, 20, 21, 24, 25, 40, 41, 49, 50, 51, 60, 61,
        64, 99, 100, 101, 999, 1000, 11200, 21200, 51209, 9992409, 1000000, 1000001, 99999999, 100000000,
        Integer.MAX_VALUE - 1, Integer.MAX_VALUE};

    private RoomTest() {
    }

    public static void main(String[] args) throws ReflectiveOperationException {
        wildCalls();
        dearestCalls();
        Check.end();
    }

    private static List<Method> calls() {
        List<Method> all = new ArrayList<>();
        for (Method m : FuelTurns.class.getDeclaredMethods()) {
            if (Modifier.isPublic(m.getModifiers())) {
                all.add(m);
            }
        }
        all.sort(Comparator.comparing(Method::getName));
        return all;
    }

    private static Object aValue(Class<?> type, Random lot) {
        if (type == boolean.class) {
            return lot.nextBoolean();
        }
        int v = lot.nextInt(3) == 0 ? EDGES[lot.nextInt(EDGES.length)] : lot.nextInt(12) - 1;
        if (type == long.class) {
            return lot.nextInt(4) == 0 ? lot.nextLong() : (long) v;
        }
        return v;
    }

    private static void wildCalls() throws IllegalAccessException {
        Random lot = new Random(41);
        List<Method> all = calls();
        Check.due("calls", all.size(), 40);
        for (int run = 0; run < 2000; run++) {
            FuelTurns x = new FuelTurns();
            for (int i = 0; i < 600; i++) {
                Method m = all.get(lot.nextInt(all.size()));
                Object[] values = new Object[m.getParameterCount()];
                for (int p = 0; p < values.length; p++) {
                    values[p] = aValue(m.getParameterTypes()[p], lot);
                }
                try {
                    m.invoke(x, values);
                } catch (InvocationTargetException e) {
                    e.getCause().printStackTrace(System.out);
                    Check.holds(m + " throws nothing", false);
                }
            }
        }
    }

    /** What makes the class work hardest, 500 times: bytes made are counted by the machine. */
    private static void dearestCalls() {
        FuelTurns x = new FuelTurns();
        for (int i = 0; i < 12; i++) {
            x.warn(i % 6, 10000 * (1 + i % 8) + 100 * (8 + i) + 9, 700000);
        }
        String rule = "c>100000&d<3?-(-(-c))-c-c-c:n>3?h-f:t";
        for (int i = 0; i < rule.length(); i++) {
            x.feed(rule.charAt(i), 1);
        }
        Check.due("rule", x.rule(), 0);
        x.plan(5, 60);
        x.sheet(0, 8, 12);
        x.sheet(1, 8, 8);
        var thread = (com.sun.management.ThreadMXBean) ManagementFactory.getThreadMXBean();
        long sum = 0;
        long made = 0;
        for (int turn = 0; turn < 2; turn++) {
            long before = thread.getCurrentThreadAllocatedBytes();
            for (int i = 0; i < 50; i++) {
                sum += x.know(0, 80, 8) + x.best(8, 0) + x.turn(8, 7) + x.lives(i, 50, 100) + x.life(i, 100)
                    + x.swarm(0, 20, 20, 0) + x.rests(1) + x.both(1, 1) + x.home(0, 20) + x.image() + x.undo()
                    + x.safest(1) + x.says(1);
            }
            made = thread.getCurrentThreadAllocatedBytes() - before;
        }
        Check.holds("calls make no objects, but made " + made + " bytes" + (sum == 0 ? "!" : ""), made < 2000);
        long before = thread.getCurrentThreadAllocatedBytes();
        FuelTurns y = new FuelTurns();
        long made1 = thread.getCurrentThreadAllocatedBytes() - before;
        Check.holds("an object is small, but has " + made1 + " bytes" + y.status(-1), made1 < 120000);
        System.out.println("an object makes " + made1 + " bytes, 650 calls " + made);
    }
}
