import com.sun.management.ThreadMXBean;
import java.lang.management.ManagementFactory;
import java.lang.reflect.InvocationTargetException;
import java.lang.reflect.Method;
import java.lang.reflect.Modifier;
import java.util.Arrays;
import java.util.Comparator;
import java.util.Random;

/** Any call with any arguments ends without a throw, answers the same again, and keeps to its room. */
public final class WildTest {
    private static final long[] EDGES = {0, 1, -1, 2, 3, 5, 6, 7, 8, 24, 30, 31, 39, 40, 41, 49, 50, 59, 60, 61, 100, 120, 255,
        256, 512, Integer.MAX_VALUE, Integer.MIN_VALUE, Integer.MAX_VALUE - 3, Long.MAX_VALUE, Long.MIN_VALUE};

    public static void main(String[] args) throws ReflectiveOperationException {
        Method[] methods = BackHouse.class.getDeclaredMethods();
        Method[] open = Arrays.stream(methods).filter(m -> Modifier.isPublic(m.getModifiers())).toArray(Method[]::new);
        Arrays.sort(open, Comparator.comparing(Method::getName));
        Due.due("methods", open.length, 37);
        for (int run = 0; run < 400; run++) {
            Due.due("run " + run + " again", wild(open, run), wild(open, run));
        }
        room();
        Due.close();
    }

    private static long wild(Method[] open, long seed) throws ReflectiveOperationException {
        Random random = new Random(seed);
        BackHouse x = new BackHouse();
        long all = 0;
        for (int call = 0; call < 512; call++) {
            Method method = open[random.nextInt(open.length)];
            Object[] arguments = new Object[method.getParameterCount()];
            for (int i = 0; i < arguments.length; i++) {
                long v = random.nextInt(3) == 0 ? EDGES[random.nextInt(EDGES.length)] : random.nextInt(10);
                arguments[i] = method.getParameterTypes()[i] == long.class ? (Object) v : (Object) (int) v;
            }
            try {
                all = all * 31 + ((Number) method.invoke(x, arguments)).longValue();
            } catch (InvocationTargetException thrown) {
                Due.due(method.getName() + Arrays.toString(arguments) + " threw " + thrown.getCause(), 1, 0);
            }
        }
        return all;
    }

    /**
     * All calls of a run share one room of 600,000 objects and 7.3 million elements: as many bytes are surely
     * less. The calls that look at all sets are the dearest.
     */
    private static void room() {
        dearest();
        ThreadMXBean threads = (ThreadMXBean) ManagementFactory.getThreadMXBean();
        long self = Thread.currentThread().getId();
        long before = threads.getThreadAllocatedBytes(self);
        dearest();
        long made = threads.getThreadAllocatedBytes(self) - before;
        Due.due("an object and 512 calls made " + made + " bytes", made < 7_000_000 ? 1 : 0, 1);
    }

    private static void dearest() {
        BackHouse x = new BackHouse();
        for (int i = 0; i < 8; i++) {
            x.thing(6, i % 7);
        }
        for (int i = 0; i < 84; i++) {
            x.mend(0, 3, i);
            x.list(3, 2);
            x.doorstep(0);
            x.row(0, 0, 60);
            x.which(0, 0);
            x.mean(1);
        }
    }
}
