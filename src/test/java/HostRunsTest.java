import java.util.Random;

/** Long runs of calls of promises 31 to 40, right and wrong ones, against Host; the runs are always the same. */
public final class HostRunsTest {
    /** An act() is three or four calls. */
    private static final int RUNS = 400, CALLS = 320;
    private static final long[] NUMBERS = {0, 1, -1, 2, 127, 128, 255, 256, -129, 32768, 65536, Integer.MAX_VALUE,
        Integer.MIN_VALUE, 1L << 31, 1L << 32, 1L << 63, Long.MAX_VALUE};

    private final int run;
    private final Random random;
    private final EightWorlds x = new EightWorlds();
    private final Host host = new Host();

    private HostRunsTest(int run) {
        this.run = run;
        random = new Random(run);
    }

    public static void main(String[] args) {
        for (int run = 0; run < RUNS && Check.allRight(); run++) {
            HostRunsTest one = new HostRunsTest(run);
            for (int call = 0; call < CALLS; call++) {
                one.oneCall();
            }
        }
        Check.end("HostRunsTest");
    }

    /** Mostly 0 .. most; now and then one beyond, or far off. */
    private int number(int most) {
        int[] far = {-1, most + 1, -2, Integer.MIN_VALUE, Integer.MAX_VALUE, random.nextInt()};
        return random.nextInt(25) == 0 ? far[random.nextInt(far.length)] : random.nextInt(most + 1);
    }

    /** Sizes and places of ROWS: few in some runs, up to the most in others. */
    private int place() {
        return number(run % 3 == 0 ? 4 : run % 3 == 1 ? 12 : 60);
    }

    private int x() {
        return random.nextInt(3) == 0 ? (int) NUMBERS[random.nextInt(NUMBERS.length)] : random.nextInt();
    }

    private void due(String call, long got, long want) {
        Check.due("run " + run + ": " + call, got, want);
    }

    private void oneCall() {
        int shelf = number(5), other = number(5), i = place(), j = place(), n = place();
        switch (random.nextInt(12)) {
            case 0 -> due("body", x.body(n % 9), host.body(n % 9));
            case 1 -> acts(number(Math.max(0, x.count(5) - 1)), number(3));
            case 2 -> due("keep", x.keep(shelf, i - 1), host.keep(shelf, i - 1));
            case 3 -> rows(shelf, number(4), n);
            case 4, 5 -> puts(shelf, i, NUMBERS[random.nextInt(NUMBERS.length)] + random.nextInt(3));
            case 6 -> due("element(" + shelf + ", " + i + ")", x.element(shelf, i), host.element(shelf, i));
            case 7 -> taken(shelf, number(7));
            default -> due("shift(" + shelf + ", " + i + ", " + other + ", " + j + ", " + n + ")",
                x.shift(shelf, i, other, j, n), host.shift(shelf, i, other, j, n));
        }
    }

    private void taken(int shelf, int k) {
        due("taken(" + shelf + ", " + k + ")", x.taken(shelf, k), host.taken(shelf, k));
    }

    private void acts(int body, int act) {
        int v = x();
        due("act(" + body + ", " + act + ", " + v + ")", x.act(body, act, v), host.act(body, act, v));
        due("count(6)", x.count(6), host.ran());
        int i = number(7);
        due("trace(" + i + ")", x.trace(i), host.trace(i));
    }

    private void rows(int shelf, int sort, int n) {
        due("row(" + shelf + ", " + sort + ", " + n + ")", x.row(shelf, sort, n), host.row(shelf, sort, n));
    }

    private void puts(int shelf, int i, long v) {
        due("put(" + shelf + ", " + i + ", " + v + ")", x.put(shelf, i, v), host.put(shelf, i, v));
    }
}
