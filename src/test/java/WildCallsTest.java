import java.lang.reflect.InvocationTargetException;
import java.lang.reflect.Method;
import java.lang.reflect.Modifier;
import java.util.Arrays;
import java.util.Comparator;
import java.util.Random;
import java.util.Set;

/**
 * Calls of all names with any arguments in any state: none throws. What is refused changes nothing: another object
 * is told all but the refused calls, and answers alike.
 */
public final class WildCallsTest {
    /** Some hundred calls make the object, and Answers needs some three hundred. */
    private static final int RUNS = 360, CALLS = 380, CALLS_AHEAD_OF_ANSWERS = 90;
    private static final int[] EDGES = {-1, -2, 3, 4, 5, 6, 7, 9, 11, 12, 13, 23, 24, 49, 50, 59, 60, 61, 100, 112, 200, 201,
        400, 401, 411, 511, 512, 999, 1000, 4095, 4096, 9999, 10000, 9999999, 10000000, 99999,
        Integer.MAX_VALUE, Integer.MIN_VALUE, Integer.MIN_VALUE + 1};
    private static final Set<Long> REFUSALS = Set.of(-1L, -2L, -3L, -4L, -5L, -11L, -12L, -13L, -14L);
    /** Numbers like the refusals may be right answers of these; all but act ask alone. */
    private static final Set<String> TOLD_TO_BOTH = Set.of("act", "element", "house", "strong");

    public static void main(String[] args) throws IllegalAccessException {
        Method[] calls = Arrays.stream(EightWorlds.class.getDeclaredMethods())
            .filter(m -> Modifier.isPublic(m.getModifiers())).toArray(Method[]::new);
        Arrays.sort(calls, Comparator.comparing(Method::getName));
        for (int run = 0; run < RUNS && Check.allRight(); run++) {
            goOn(run, calls);
        }
        Check.end("WildCallsTest");
    }

    private static void goOn(int run, Method[] calls) throws IllegalAccessException {
        Random random = new Random(run);
        EightWorlds x = begun(new Random(run), run % 5), y = begun(new Random(run), run % 5);
        boolean answered = run % 2 == 0;
        for (int i = 0; i < (answered ? CALLS_AHEAD_OF_ANSWERS : CALLS); i++) {
            Method m = calls[random.nextInt(calls.length)];
            Object[] told = told(random, m);
            long answer = answer(x, m, told);
            if (!REFUSALS.contains(answer) || TOLD_TO_BOTH.contains(m.getName())) {
                Check.due("run " + run + ", call " + i + ": " + m.getName() + Arrays.toString(told),
                    answer, answer(y, m, told));
            }
        }
        if (answered) {
            Check.holds("run " + run + ": refused calls changed something", Answers.of(x).equals(Answers.of(y)));
        }
    }

    private static long answer(EightWorlds x, Method m, Object[] told) throws IllegalAccessException {
        try {
            Object answer = m.invoke(x, told);
            Check.holds("answers", true);
            return answer instanceof Long ? (Long) answer : (Integer) answer;
        } catch (InvocationTargetException e) {
            Check.holds(m.getName() + Arrays.toString(told) + " threw " + e.getCause(), false);
            return 0;
        }
    }

    /** States from an empty object to a full one. */
    private static EightWorlds begun(Random random, int much) {
        EightWorlds x = new EightWorlds();
        int songs = new int[] {0, 1, 4, 6, 12}[much];
        for (int s = 0; s < songs; s++) {
            x.song(random.nextInt(1000));
        }
        for (int law = 0; law < much + 1; law++) {
            Check.law(x, law % 2 == 0 ? "w+c*3" : Texts.made(random));
        }
        for (int w = 0; w < 2 * much; w++) {
            x.world(random.nextInt(much + 1) * 10 + w % 3, w * 50000 + w, w);
        }
        for (int b = 0; b < much * 3; b++) {
            x.body(b % 8);
        }
        for (int s = 0; s < much; s++) {
            x.row(s, s, 10 * s);
        }
        return x;
    }

    private static Object[] told(Random random, Method m) {
        Class<?>[] kinds = m.getParameterTypes();
        Object[] told = new Object[kinds.length];
        for (int i = 0; i < told.length; i++) {
            int v = random.nextInt(4) > 0 ? random.nextInt(4) : random.nextInt(8) > 0
                ? EDGES[random.nextInt(EDGES.length)] : random.nextInt();
            told[i] = kinds[i] == long.class ? (Object) (random.nextBoolean() ? (long) v : random.nextLong()) : (Object) v;
        }
        return told;
    }
}
