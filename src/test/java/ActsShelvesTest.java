/** Promises 31 to 40: body, act, trace, keep, row, put, element, shift, taken, count. */
public final class ActsShelvesTest {
    private static final int MIN = Integer.MIN_VALUE, MAX = Integer.MAX_VALUE;
    private static final long NONE = Long.MIN_VALUE;

    public static void main(String[] args) {
        bodies();
        acts();
        traces();
        noSuchAct();
        keeps();
        rows();
        puts();
        elements();
        shifts();
        shiftsOfWrongCalls();
        taken();
        counts();
        Check.end("ActsShelvesTest");
    }

    private static EightWorlds withBodies(int... kinds) {
        EightWorlds x = new EightWorlds();
        for (int kind : kinds) {
            x.body(kind);
        }
        return x;
    }

    private static void bodies() {
        EightWorlds x = new EightWorlds();
        Check.due("31: body(-1)", x.body(-1), EightWorlds.BAD);
        Check.due("31: body(8)", x.body(8), EightWorlds.BAD);
        for (int b = 0; b < 50; b++) {
            Check.due("31: body", x.body(b % 8), b);
        }
        Check.due("31: FULL", x.body(0), EightWorlds.FULL);
        Check.due("31: BAD ahead of FULL", x.body(8), EightWorlds.BAD);
        Check.due("31: count", x.count(5), 50);
        Check.due("31: the last one's kind", x.act(49, 0, 1), 1 + 49 + 3);
    }

    private static void acts() {
        for (int b = 0; b < 40; b++) {
            EightWorlds x = new EightWorlds();
            for (int before = 0; before <= b; before++) {
                x.body(before % 8);
            }
            Host host = new Host();
            for (int before = 0; before <= b; before++) {
                host.body(before % 8);
            }
            for (int act = 0; act < 4; act++) {
                for (int v : new int[] {0, 1, 9, -1, -40, 12345, MAX, MIN, MAX - 20, MIN + 3}) {
                    Check.due("32: act(" + b + ", " + act + ", " + v + ")", x.act(b, act, v), host.act(b, act, v));
                }
            }
        }
    }

    private static void trace(EightWorlds x, int body, int act, int... want) {
        x.act(body, act, 5);
        for (int i = 0; i < want.length; i++) {
            Check.due("33: trace(" + i + ") of act " + act + " of kind " + body, x.trace(i), want[i]);
        }
        Check.due("33: no more of act " + act + " of kind " + body, x.trace(want.length), EightWorlds.BAD);
        Check.due("40: how many ran", x.count(6), want.length);
    }

    private static void traces() {
        EightWorlds x = withBodies(0, 1, 2, 3, 4, 5, 6, 7);
        trace(x, 0, 0, 1);
        trace(x, 0, 1, 10, 1);
        trace(x, 0, 2, 11);
        trace(x, 0, 3, 2, 10, 1, 11);
        trace(x, 1, 0, 20, 1);
        trace(x, 1, 1, 10, 20, 1);
        trace(x, 1, 2, 11);
        trace(x, 1, 3, 2, 10, 20, 1, 11);
        trace(x, 2, 0, 1);
        trace(x, 2, 1, 30, 10, 1);
        trace(x, 2, 3, 2, 30, 10, 1, 11);
        trace(x, 3, 1, 41, 30, 10, 1);
        trace(x, 3, 2, 40, 11);
        trace(x, 3, 3, 2, 41, 30, 10, 1, 40, 11);
        trace(x, 4, 2, 50, 11, 1);
        trace(x, 4, 3, 2, 10, 1, 50, 11, 1);
        trace(x, 5, 3, 60, 2, 30, 10, 1, 11);
        trace(x, 6, 0, 70, 20, 1);
        trace(x, 6, 3, 2, 10, 70, 20, 1, 11);
        trace(x, 7, 1, 80, 10, 1, 11);
        trace(x, 7, 3, 81, 2, 80, 10, 1, 11, 11);
        for (int i : new int[] {-1, 7, 24, MIN, MAX}) {
            Check.due("33: trace(" + i + ")", x.trace(i), EightWorlds.BAD);
        }
    }

    private static void noSuchAct() {
        EightWorlds x = withBodies(7);
        int[][] wrong = {{1, 0}, {-1, 0}, {50, 0}, {0, 4}, {0, -1}, {MIN, MAX}};
        for (int[] call : wrong) {
            x.act(0, 3, 1);
            Check.due("32: it ran", x.count(6), 7);
            Check.due("32: no such one", x.act(call[0], call[1], 9), 0);
            Check.due("32: no trace then", x.trace(0), EightWorlds.BAD);
            Check.due("32: none ran", x.count(6), 0);
        }
    }

    private static void keeps() {
        EightWorlds x = withBodies(3, 4);
        Check.due("34: keep(0, 1)", x.keep(0, 1), 1);
        Check.due("34: it is there", x.taken(0, 4), 4);
        Check.due("34: keep(0, 2)", x.keep(0, 2), EightWorlds.BAD);
        Check.due("34: keep(0, -2)", x.keep(0, -2), EightWorlds.BAD);
        Check.due("34: keep(6, 0)", x.keep(6, 0), EightWorlds.BAD);
        Check.due("34: keep(-1, 0)", x.keep(-1, 0), EightWorlds.BAD);
        Check.due("34: keep(MIN, MIN)", x.keep(MIN, MIN), EightWorlds.BAD);
        Check.due("34: it stays", x.taken(0, 4), 4);
        Check.due("34: keep(0, -1)", x.keep(0, -1), 1);
        Check.due("34: nothing is there", x.taken(0, 4), -11);
        Check.due("34: nothing again", x.keep(0, -1), 1);
        x.row(0, 0, 4);
        Check.due("34: instead of a row", x.keep(0, 0), 1);
        Check.due("34: no row", x.put(0, 0, 1), -12);
    }

    private static void rows() {
        EightWorlds x = withBodies(0);
        for (int sort = 0; sort < 5; sort++) {
            Check.due("35: row", x.row(sort, sort, 60), 1);
            Check.due("35: its last", x.element(sort, 59), 0);
            Check.due("35: behind it", x.element(sort, 60), NONE);
        }
        Check.due("35: sort 5", x.row(0, 5, 1), EightWorlds.BAD);
        Check.due("35: sort -1", x.row(0, -1, 1), EightWorlds.BAD);
        Check.due("35: n 61", x.row(0, 0, 61), EightWorlds.BAD);
        Check.due("35: shelf 6", x.row(6, 0, 1), EightWorlds.BAD);
        Check.due("35: shelf -1", x.row(-1, 0, 1), EightWorlds.BAD);
        Check.due("35: n -1", x.row(0, 0, -1), -14);
        Check.due("35: n MIN", x.row(0, 0, MIN), -14);
        Check.due("35: BAD ahead of -14", x.row(6, 0, -1), EightWorlds.BAD);
        Check.due("35: BAD ahead of -14", x.row(0, 5, -1), EightWorlds.BAD);
        Check.due("35: the row stays", x.put(0, 59, 7), 1);
        Check.due("35: a new one", x.row(0, 0, 60), 1);
        Check.due("35: is 0 at first", x.element(0, 59), 0);
        Check.due("35: an empty one", x.row(0, 0, 0), 1);
        Check.due("35: has no place", x.put(0, 0, 1), -13);
        x.keep(0, 0);
        Check.due("35: instead of a keeping", x.row(0, 1, 1), 1);
        Check.due("35: is a row", x.put(0, 0, 1), 1);
    }

    private static void kept(int sort, long v, long want) {
        EightWorlds x = new EightWorlds();
        x.row(0, sort, 3);
        Check.due("36: put " + v + " in a row " + sort, x.put(0, 1, v), 1);
        Check.due("37: " + v + " in a row " + sort, x.element(0, 1), want);
        Check.due("36: the one ahead", x.element(0, 0), 0);
        Check.due("36: the one behind", x.element(0, 2), 0);
    }

    private static void puts() {
        for (long v : new long[] {0, 1, 2, -1, 127, 128, 255, 256, -128, -129, 32767, 32768, 65536, MAX, MIN,
            1L + MAX, MIN - 1L, 1L << 32, 1L << 40, Long.MAX_VALUE, Long.MIN_VALUE, 0x123456789ABCDEFL}) {
            kept(0, v, (byte) v);
            kept(1, v, (short) v);
            kept(2, v, (int) v);
            kept(3, v, v);
            kept(4, v, v == 0 ? 0 : 1);
        }
        EightWorlds x = withBodies(0);
        x.row(0, 2, 3);
        Check.due("36: shelf 6", x.put(6, 0, 1), EightWorlds.BAD);
        Check.due("36: shelf -1", x.put(-1, 0, 1), EightWorlds.BAD);
        Check.due("36: nothing there", x.put(1, 0, 1), -11);
        Check.due("36: -11 ahead of -13", x.put(1, -5, 1), -11);
        x.keep(1, 0);
        Check.due("36: a keeping", x.put(1, 0, 1), -12);
        Check.due("36: -12 ahead of -13", x.put(1, -5, 1), -12);
        for (int i : new int[] {-1, 3, 60, MIN, MAX}) {
            Check.due("36: place " + i, x.put(0, i, 1), -13);
        }
    }

    private static void elements() {
        EightWorlds x = withBodies(0);
        x.row(0, 3, 3);
        x.put(0, 2, -5);
        Check.due("37: element(0, 2)", x.element(0, 2), -5);
        Check.due("37: element(0, 3)", x.element(0, 3), NONE);
        Check.due("37: element(0, -1)", x.element(0, -1), NONE);
        Check.due("37: element(6, 0)", x.element(6, 0), NONE);
        Check.due("37: element(-1, 0)", x.element(-1, 0), NONE);
        Check.due("37: element(1, 0)", x.element(1, 0), NONE);
        x.keep(1, 0);
        Check.due("37: of a keeping", x.element(1, 0), NONE);
        Check.due("37: element(MAX, MIN)", x.element(MAX, MIN), NONE);
    }

    private static void fill(EightWorlds x, int shelf, int sort, int n, int first) {
        x.row(shelf, sort, n);
        for (int i = 0; i < n; i++) {
            x.put(shelf, i, first + i);
        }
    }

    private static void stands(EightWorlds x, int shelf, int... want) {
        for (int i = 0; i < want.length; i++) {
            Check.due("38: element " + i, x.element(shelf, i), want[i]);
        }
        Check.due("38: the end", x.element(shelf, want.length), NONE);
    }

    private static void shifts() {
        EightWorlds x = new EightWorlds();
        fill(x, 0, 1, 5, 10);
        fill(x, 1, 1, 4, 20);
        Check.due("38: shift", x.shift(0, 3, 1, 0, 2), 2);
        stands(x, 1, 13, 14, 22, 23);
        stands(x, 0, 10, 11, 12, 13, 14);
        Check.due("38: up in the same", x.shift(0, 0, 0, 1, 4), 4);
        stands(x, 0, 10, 10, 11, 12, 13);
        Check.due("38: down in the same", x.shift(0, 2, 0, 0, 3), 3);
        stands(x, 0, 11, 12, 13, 12, 13);
        Check.due("38: all", x.shift(1, 0, 0, 1, 4), 4);
        stands(x, 0, 11, 13, 14, 22, 23);
        Check.due("38: none", x.shift(0, 5, 1, 4, 0), 0);
        Check.due("38: none", x.shift(0, 0, 0, 0, 0), 0);
        stands(x, 1, 13, 14, 22, 23);
    }

    private static void shiftsOfWrongCalls() {
        EightWorlds x = withBodies(0);
        fill(x, 0, 1, 5, 10);
        fill(x, 1, 1, 4, 20);
        fill(x, 2, 2, 4, 30);
        x.keep(3, 0);
        Check.due("38: shelf 6", x.shift(6, 0, 0, 0, 1), EightWorlds.BAD);
        Check.due("38: shelf 6", x.shift(0, 0, 6, 0, 1), EightWorlds.BAD);
        Check.due("38: BAD ahead of -11", x.shift(4, 0, -1, 0, 1), EightWorlds.BAD);
        Check.due("38: nothing there", x.shift(4, 0, 0, 0, 1), -11);
        Check.due("38: nothing there", x.shift(0, 0, 4, 0, 1), -11);
        Check.due("38: -11 ahead of -12", x.shift(3, 0, 4, 0, 1), -11);
        Check.due("38: a keeping", x.shift(3, 0, 0, 0, 1), -12);
        Check.due("38: a keeping", x.shift(0, 0, 3, 0, 1), -12);
        Check.due("38: a keeping to itself", x.shift(3, 0, 3, 0, 1), -12);
        Check.due("38: of unlike sorts", x.shift(0, 0, 2, 0, 1), -12);
        x.row(3, 1, 4);
        x.keep(3, 0);
        Check.due("38: a keeping where a row was", x.shift(3, 0, 0, 0, 1), -12);
        Check.due("38: a keeping where a row was", x.shift(0, 0, 3, 0, 1), -12);
        Check.due("38: -12 ahead of -13", x.shift(0, 9, 2, 0, 1), -12);
        int[][] wrong = {{-1, 0, 1}, {0, -1, 1}, {5, 0, 1}, {0, 4, 1}, {0, 0, 5}, {2, 0, 4}, {0, 1, 4}, {6, 0, 0},
            {0, 5, 0}, {MAX, 0, MAX}, {0, MAX, 1}, {MIN, 0, 1}, {1, 1, MAX}, {0, 0, -1}, {0, 0, MIN}};
        for (int[] call : wrong) {
            Check.due("38: no such place", x.shift(0, call[0], 1, call[1], call[2]), -13);
        }
        stands(x, 1, 20, 21, 22, 23);
    }

    private static void taken() {
        int[] above = {-1, 0, 0, 2, 0, 2, 1, 0};
        EightWorlds x = withBodies(0, 1, 2, 3, 4, 5, 6, 7);
        for (int kind = 0; kind < 8; kind++) {
            x.keep(0, kind);
            for (int k = 0; k < 8; k++) {
                boolean under = kind == k || above[kind] == k || (above[kind] > 0 && above[above[kind]] == k);
                Check.due("39: kind " + kind + " for " + k, x.taken(0, k), under ? kind : -12);
            }
        }
        Check.due("39: kind 8", x.taken(0, 8), EightWorlds.BAD);
        Check.due("39: kind -1", x.taken(0, -1), EightWorlds.BAD);
        Check.due("39: shelf 6", x.taken(6, 0), EightWorlds.BAD);
        Check.due("39: shelf -1", x.taken(-1, 0), EightWorlds.BAD);
        Check.due("39: nothing there", x.taken(1, 0), -11);
        Check.due("39: BAD ahead of -11", x.taken(1, 8), EightWorlds.BAD);
        x.row(1, 0, 3);
        Check.due("39: a row", x.taken(1, 0), -12);
    }

    private static void counts() {
        EightWorlds x = withBodies(7, 7, 7);
        Check.law(x, "w");
        Check.law(x, "c");
        x.world(0, 0, 0);
        x.song(1);
        x.song(1);
        x.song(1);
        x.song(1);
        x.feed(3, 1);
        x.feed(2, 1);
        x.worth(0, 9);
        x.act(0, 3, 1);
        int[] want = {4, 2, 1, 5, 1, 3, 7};
        for (int what = 0; what < 7; what++) {
            Check.due("40: count(" + what + ")", x.count(what), want[what]);
        }
        for (int what : new int[] {-1, 7, MIN, MAX}) {
            Check.due("40: count(" + what + ")", x.count(what), EightWorlds.BAD);
        }
    }
}
