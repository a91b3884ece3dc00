import java.util.ArrayList;
import java.util.List;

/**
 * KEEPINGS and SHELVES as the Java machine itself has them: acts are its own methods that come from above,
 * ROWS its own arrays, and the REFUSALS what it refuses. The second writing of promises 31 to 39.
 */
final class Host {
    private static final int BAD = EightWorlds.BAD, FULL = EightWorlds.FULL;

    private static final List<Class<? extends Keeping>> KINDS = List.of(Keeping.class, Own.class, Led.class,
        KeptUp.class, Bought.class, Shown.class, Late.class, Against.class);

    private final List<Keeping> bodies = new ArrayList<>();
    private final Object[] shelves = new Object[6];
    private final List<Integer> trace = new ArrayList<>();

    int body(int kind) {
        if (kind < 0 || kind > 7) {
            return BAD;
        }
        if (bodies.size() == 50) {
            return FULL;
        }
        bodies.add(made(kind, bodies.size()));
        return bodies.size() - 1;
    }

    int act(int body, int act, int x) {
        trace.clear();
        if (body < 0 || body >= bodies.size() || act < 0 || act > 3) {
            return 0;
        }
        Keeping one = bodies.get(body);
        one.ran = trace;
        return act == 0 ? one.tries(x) : act == 1 ? one.keeps(x) : act == 2 ? one.counts(x) : one.tells(x);
    }

    int trace(int i) {
        return i < 0 || i >= trace.size() || i > 23 ? BAD : trace.get(i);
    }

    int ran() {
        return trace.size();
    }

    private static boolean isShelf(int shelf) {
        return shelf >= 0 && shelf < 6;
    }

    int keep(int shelf, int body) {
        if (!isShelf(shelf) || body < -1 || body >= bodies.size()) {
            return BAD;
        }
        shelves[shelf] = body < 0 ? null : bodies.get(body);
        return 1;
    }

    int row(int shelf, int sort, int n) {
        if (!isShelf(shelf) || sort < 0 || sort > 4 || n > 60) {
            return BAD;
        }
        try {
            shelves[shelf] = sort == 0 ? new byte[n] : sort == 1 ? new short[n] : sort == 2 ? new int[n]
                : sort == 3 ? new long[n] : new boolean[n];
            return 1;
        } catch (NegativeArraySizeException e) {
            return -14;
        }
    }

    int put(int shelf, int i, long v) {
        if (!isShelf(shelf)) {
            return BAD;
        }
        Object row = shelves[shelf];
        try {
            if (row instanceof byte[] bytes) {
                bytes[i] = (byte) v;
            } else if (row instanceof short[] shorts) {
                shorts[i] = (short) v;
            } else if (row instanceof int[] ints) {
                ints[i] = (int) v;
            } else if (row instanceof long[] longs) {
                longs[i] = v;
            } else if (row instanceof boolean[] booleans) {
                booleans[i] = v != 0;
            } else {
                return row == null ? -11 : -12;
            }
            return 1;
        } catch (ArrayIndexOutOfBoundsException e) {
            return -13;
        }
    }

    long element(int shelf, int i) {
        Object row = isShelf(shelf) ? shelves[shelf] : null;
        try {
            return row instanceof byte[] bytes ? bytes[i] : row instanceof short[] shorts ? shorts[i]
                : row instanceof int[] ints ? ints[i] : row instanceof long[] longs ? longs[i]
                : row instanceof boolean[] booleans ? (booleans[i] ? 1L : 0L) : Long.MIN_VALUE;
        } catch (ArrayIndexOutOfBoundsException e) {
            return Long.MIN_VALUE;
        }
    }

    int shift(int shelf, int i, int other, int j, int n) {
        if (!isShelf(shelf) || !isShelf(other)) {
            return BAD;
        }
        try {
            System.arraycopy(shelves[shelf], i, shelves[other], j, n);
            return n;
        } catch (NullPointerException e) {
            return -11;
        } catch (ArrayStoreException e) {
            return -12;
        } catch (IndexOutOfBoundsException e) {
            return -13;
        }
    }

    int taken(int shelf, int k) {
        if (!isShelf(shelf) || k < 0 || k > 7) {
            return BAD;
        }
        if (shelves[shelf] == null) {
            return -11;
        }
        try {
            return KINDS.indexOf(KINDS.get(k).cast(shelves[shelf]).getClass());
        } catch (ClassCastException e) {
            return -12;
        }
    }

    private static Keeping made(int kind, int n) {
        switch (kind) {
            case 0: return new Keeping(n);
            case 1: return new Own(n);
            case 2: return new Led(n);
            case 3: return new KeptUp(n);
            case 4: return new Bought(n);
            case 5: return new Shown(n);
            case 6: return new Late(n);
            default: return new Against(n);
        }
    }

    private interface Tries {
        int number();

        void begins(int body);

        default int tries(int x) {
            begins(1);
            return x + number();
        }
    }

    private interface Tells {
        int keeps(int x);

        int counts(int x);

        void begins(int body);

        default int tells(int x) {
            begins(2);
            return keeps(x) - counts(1);
        }
    }

    private static class Keeping implements Tries, Tells {
        final int n;
        List<Integer> ran;

        Keeping(int n) {
            this.n = n;
        }

        public int number() {
            return n;
        }

        public void begins(int body) {
            ran.add(body);
        }

        public int keeps(int x) {
            begins(10);
            return tries(x) * 2;
        }

        public int counts(int x) {
            begins(11);
            return x ^ n;
        }
    }

    private static class Own extends Keeping {
        Own(int n) {
            super(n);
        }

        @Override
        public int tries(int x) {
            begins(20);
            return super.tries(x) + 3;
        }
    }

    private static class Led extends Keeping {
        Led(int n) {
            super(n);
        }

        @Override
        public int keeps(int x) {
            begins(30);
            return -super.keeps(x);
        }
    }

    private static final class KeptUp extends Led {
        KeptUp(int n) {
            super(n);
        }

        @Override
        public int counts(int x) {
            begins(40);
            return super.counts(x) * 3;
        }

        @Override
        public int keeps(int x) {
            begins(41);
            return super.keeps(x + 1);
        }
    }

    private static final class Bought extends Keeping {
        Bought(int n) {
            super(n);
        }

        @Override
        public int counts(int x) {
            begins(50);
            return super.counts(x) - tries(2);
        }
    }

    private static final class Shown extends Led {
        Shown(int n) {
            super(n);
        }

        @Override
        public int tells(int x) {
            begins(60);
            return super.tells(x) ^ 5;
        }
    }

    private static final class Late extends Own {
        Late(int n) {
            super(n);
        }

        @Override
        public int tries(int x) {
            begins(70);
            return super.tries(x) * 2;
        }
    }

    private static final class Against extends Keeping {
        Against(int n) {
            super(n);
        }

        @Override
        public int keeps(int x) {
            begins(80);
            return super.keeps(x) + counts(2);
        }

        @Override
        public int tells(int x) {
            begins(81);
            return super.tells(x) - 1;
        }
    }
}
