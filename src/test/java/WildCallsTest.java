import java.lang.reflect.InvocationTargetException;
import java.lang.reflect.Method;
import java.util.Arrays;
import java.util.Comparator;
import java.util.Random;
import java.util.Set;

/** Calls of all names with any arguments in any state: none throws, and what is refused changes nothing. */
public final class WildCallsTest {
    private static final int RUNS = 120, CALLS = 512;
    private static final int[] EDGES = {-1, -2, 3, 4, 5, 6, 7, 9, 11, 12, 13, 23, 24, 49, 50, 59, 60, 61, 100, 112, 200, 201,
        400, 401, 411, 511, 512, 999, 1000, 4095, 4096, 9999, 10000, 9999999, 10000000, 99999,
        Integer.MAX_VALUE, Integer.MIN_VALUE, Integer.MIN_VALUE + 1};
    private static final Set<Long> REFUSALS = Set.of(-1L, -2L, -3L, -4L, -5L, -11L, -12L, -13L, -14L, -2000000000L);
    /** Of these numbers like the refusals may be right answers, or a refusal is told to change something. */
    private static final Set<String> NOT_WATCHED = Set.of("act", "element", "law", "house", "strong");

    public static void main(String[] args) throws IllegalAccessException {
        Method[] calls = Arrays.stream(EightWorlds.class.getDeclaredMethods())
            .filter(m -> java.lang.reflect.Modifier.isPublic(m.getModifiers())).toArray(Method[]::new);
        Arrays.sort(calls, Comparator.comparing(Method::getName));
        for (int run = 0; run < RUNS && Check.allRight(); run++) {
            goOn(run, calls);
        }
        Check.end("WildCallsTest");
    }

    private static void goOn(int run, Method[] calls) throws IllegalAccessException {
        Random random = new Random(run);
        EightWorlds x = begun(random, run % 5);
        boolean watched = run % 3 == 0;
        for (int i = 0; i < CALLS; i++) {
            Method m = calls[random.nextInt(calls.length)];
            Object[] told = told(random, m);
            long before = watched ? sum(x) : 0;
            long answer = answer(x, m, told);
            if (watched && REFUSALS.contains(answer) && !NOT_WATCHED.contains(m.getName())) {
                Check.due("run " + run + ": changed by " + m.getName() + Arrays.toString(told), sum(x), before);
            }
        }
    }

    private static long answer(EightWorlds x, Method m, Object[] told) throws IllegalAccessException {
        try {
            Object answer = m.invoke(x, told);
            Check.holds("answers", true);
            return answer instanceof Long ? (Long) answer : (Integer) answer;
        } catch (InvocationTargetException e) {
            Check.holds(m.getName() + Arrays.toString(told) + " threw " + e.getCause(), false);
            return 0;
        }
    }

    /** States from an empty object to a full one. */
    private static EightWorlds begun(Random random, int much) {
        EightWorlds x = new EightWorlds();
        int songs = new int[] {0, 1, 4, 6, 12}[much];
        for (int s = 0; s < songs; s++) {
            x.song(random.nextInt(1000));
        }
        for (int law = 0; law < much + 1; law++) {
            Check.law(x, law % 2 == 0 ? "w+c*3" : Texts.made(random));
        }
        for (int w = 0; w < 2 * much; w++) {
            x.world(random.nextInt(much + 1) * 10 + w % 3, w * 50000 + w, w);
        }
        for (int b = 0; b < much * 3; b++) {
            x.body(b % 8);
        }
        for (int s = 0; s < much; s++) {
            x.row(s, s, 10 * s);
        }
        return x;
    }

    private static Object[] told(Random random, Method m) {
        Class<?>[] kinds = m.getParameterTypes();
        Object[] told = new Object[kinds.length];
        for (int i = 0; i < told.length; i++) {
            int v = random.nextInt(4) > 0 ? random.nextInt(4) : random.nextInt(8) > 0
                ? EDGES[random.nextInt(EDGES.length)] : random.nextInt();
            told[i] = kinds[i] == long.class ? (Object) (random.nextBoolean() ? (long) v : random.nextLong()) : (Object) v;
        }
        return told;
    }

    /** All that can be asked without changing it, in one number. */
    private static long sum(EightWorlds x) {
        long sum = 0;
        for (int what = 0; what < 7; what++) {
            sum = sum * 31 + x.count(what);
        }
        for (int i = 0; i < 24; i++) {
            sum = sum * 31 + x.trace(i);
        }
        for (int w = 0; w < x.count(2); w++) {
            sum = sum * 31 + sumOf(x, w);
        }
        for (int s = 0; s < 6; s++) {
            sum = sum * 31 + x.taken(s, 0);
            for (int i = 0; i < 61; i++) {
                sum = sum * 31 + x.element(s, i);
            }
        }
        for (int i = 0; i < x.count(0); i++) {
            sum = (sum * 31 + x.chart(i, 0)) * 31 + x.chart(i, 1);
        }
        return sum;
    }

    private static long sumOf(EightWorlds x, int world) {
        long sum = 0;
        for (int what = 0; what < 5; what++) {
            sum = sum * 31 + x.of(world, what);
        }
        for (int s = 0; s < x.count(0); s++) {
            sum = (sum * 31 + x.of(world, 100 + s)) * 31 + x.weight(world, s);
        }
        for (int k = 0; x.led(world, k) >= 0; k++) {
            sum = sum * 31 + x.led(world, k);
        }
        return sum;
    }
}
