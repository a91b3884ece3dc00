/**
 * Terms 4 and promises 31 to 40 at their edges: fifty KEEPINGS, ACTS whose x wraps, THE TRACE, empty and full ROWS
 * of each sort, what of a number is kept, shifts of none, of all, and over themselves, and what is counted.
 */
public final class EdgesOfShelvesTest {
    private static final int MIN = Integer.MIN_VALUE, MAX = Integer.MAX_VALUE;
    private static final int BAD = EightWorlds.BAD;
    private static final long NONE = Long.MIN_VALUE;

    public static void main(String[] args) {
        bodies();
        actsThatWrap();
        numbersOfBodies();
        noSuchAct();
        traceOfTheLatest();
        traceOfEachKind();
        keep();
        rowsOfAllSizes();
        newRows();
        lowestBits();
        lowestBitsOfBooleans();
        refusedRowsStay();
        shiftsOfNone();
        shiftsOfAll();
        shiftsOverThemselves();
        shiftsOfEachSort();
        taken();
        takenOfWhatIsKept();
        counts();
        countsOfAll();
        Check.end("EdgesOfShelvesTest");
    }

    private static EightWorlds withBodies(int... kinds) {
        EightWorlds x = new EightWorlds();
        for (int kind : kinds) {
            x.body(kind);
        }
        return x;
    }

    private static void bodies() {
        EightWorlds x = new EightWorlds();
        for (int b = 0; b < 50; b++) {
            Check.due("BODIES 0 .. 49", x.body(7 - b % 8), b);
        }
        Check.due("31: FULL", x.body(0), EightWorlds.FULL);
        Check.due("5 KEEPINGS that are kept by call", x.count(5), 50);
        for (int shelf = 0; shelf < 6; shelf++) {
            Check.due("34: the last one, on any SHELF", x.keep(shelf, 49), 1);
            Check.due("39: the last one's KIND", x.taken(shelf, 0), 6);
        }
        Check.due("32: the last one, LATE: (1 + 49 + 3) * 2", x.act(49, 0, 1), 106);
    }

    /** What KEEPING, OWN, LED, KEPT UP, BOUGHT, SHOWN, LATE and AGAINST of number n answer, written out. */
    private static int due(int kind, int act, int x, int n) {
        int tries = kind == 1 ? x + n + 3 : kind == 6 ? (x + n + 3) * 2 : x + n;
        int counts = x ^ n;
        if (kind == 3) {
            counts *= 3;
        } else if (kind == 4) {
            counts -= 2 + n;
        }
        int keeps = 2 * tries;
        if (kind == 2 || kind == 5) {
            keeps = -keeps;
        } else if (kind == 3) {
            keeps = -2 * (x + 1 + n);
        } else if (kind == 7) {
            keeps += 2 ^ n;
        }
        if (act < 3) {
            return act == 0 ? tries : act == 1 ? keeps : counts;
        }
        int tells = keeps - due(kind, 2, 1, n);
        return kind == 5 ? tells ^ 5 : kind == 7 ? tells - 1 : tells;
    }

    private static void actsThatWrap() {
        int[] numbers = {MIN, MIN + 1, MIN + 8, -1 << 30, (-1 << 30) - 1, -9, -1, 0, 1, 9, 1 << 30, (1 << 30) - 4,
            MAX - 8, MAX};
        for (int kind = 0; kind < 8; kind++) {
            EightWorlds x = withBodies(0, 1, 2, 3, 4, 5, 6, 7);
            for (int act = 0; act < 4; act++) {
                for (int v : numbers) {
                    Check.due("x (an int that wraps), KIND " + kind + ", ACT " + act + ", " + v,
                        x.act(kind, act, v), due(kind, act, v, kind));
                }
            }
        }
    }

    private static void numbersOfBodies() {
        EightWorlds x = new EightWorlds();
        for (int b = 0; b < 50; b++) {
            x.body(b * 3 % 8);
        }
        for (int b = 0; b < 50; b++) {
            for (int act = 0; act < 4; act++) {
                Check.due("n its number, of " + b, x.act(b, act, 1000), due(b * 3 % 8, act, 1000, b));
            }
        }
    }

    private static void noSuchAct() {
        int[][] wrong = {{1, 0}, {-1, 0}, {49, 0}, {50, 0}, {MIN, 0}, {MAX, 0}, {0, -1}, {0, 4}, {0, MIN}, {0, MAX}};
        for (int[] call : wrong) {
            EightWorlds x = withBodies(0);
            Check.due("32: it acts", x.act(0, 1, 5), 10);
            Check.due("32: it is traced", x.trace(1), 1);
            Check.due("0: no such KEEPING, ACT", x.act(call[0], call[1], 5), 0);
            Check.due("and no TRACE then", x.trace(0), BAD);
            Check.due("and no TRACE then", x.trace(1), BAD);
            Check.due("6 bodies that ran in the latest act()", x.count(6), 0);
            Check.due("32: it acts again", x.act(0, 0, 5), 5);
            Check.due("33: what ran", x.trace(0), 1);
        }
        Check.due("32: none at all", new EightWorlds().act(0, 0, 5), 0);
    }

    private static void traceOfTheLatest() {
        EightWorlds x = withBodies(7, 0);
        Check.due("33: none ran", x.trace(0), BAD);
        x.act(0, 3, 1);
        Check.due("33: the last of seven", x.trace(6), 11);
        Check.due("33: no eighth", x.trace(7), BAD);
        x.act(1, 2, 1);
        Check.due("the latest act()", x.trace(0), 11);
        Check.due("the latest act() alone", x.trace(1), BAD);
        Check.due("6 bodies that ran", x.count(6), 1);
        for (int i : new int[] {-1, 23, 24, 25, MIN, MAX}) {
            Check.due("33: BAD, " + i, x.trace(i), BAD);
        }
        x.body(3);
        x.keep(0, 0);
        x.taken(0, 0);
        Check.due("33: it stays till the next act()", x.trace(0), 11);
        Check.due("40: it stays till the next act()", x.count(6), 1);
    }

    private static void traceOfEachKind() {
        int[][][] due = {
            {{1}, {10, 1}, {11}, {2, 10, 1, 11}},
            {{20, 1}, {10, 20, 1}, {11}, {2, 10, 20, 1, 11}},
            {{1}, {30, 10, 1}, {11}, {2, 30, 10, 1, 11}},
            {{1}, {41, 30, 10, 1}, {40, 11}, {2, 41, 30, 10, 1, 40, 11}},
            {{1}, {10, 1}, {50, 11, 1}, {2, 10, 1, 50, 11, 1}},
            {{1}, {30, 10, 1}, {11}, {60, 2, 30, 10, 1, 11}},
            {{70, 20, 1}, {10, 70, 20, 1}, {11}, {2, 10, 70, 20, 1, 11}},
            {{1}, {80, 10, 1, 11}, {11}, {81, 2, 80, 10, 1, 11, 11}}};
        EightWorlds x = withBodies(0, 1, 2, 3, 4, 5, 6, 7);
        for (int kind = 0; kind < 8; kind++) {
            for (int act = 0; act < 4; act++) {
                x.act(kind, act, 0);
                int[] bodies = due[kind][act];
                Check.due("40: all that ran", x.count(6), bodies.length);
                for (int i = 0; i < bodies.length; i++) {
                    Check.due("as they began, KIND " + kind + ", ACT " + act, x.trace(i), bodies[i]);
                }
                Check.due("and no more", x.trace(bodies.length), BAD);
            }
        }
    }

    private static void keep() {
        EightWorlds x = withBodies(0, 5);
        for (int shelf = 0; shelf < 6; shelf++) {
            Check.due("34: nothing where nothing is", x.keep(shelf, -1), 1);
            Check.due("-11 nothing is there", x.taken(shelf, 0), -11);
            Check.due("34: a KEEPING", x.keep(shelf, 1), 1);
            Check.due("39: it is there", x.taken(shelf, 5), 5);
            Check.due("34: instead of another", x.keep(shelf, 0), 1);
            Check.due("39: it is not", x.taken(shelf, 5), -12);
            Check.due("35: a ROW instead", x.row(shelf, 3, 60), 1);
            Check.due("39: a ROW is of another kind", x.taken(shelf, 0), -12);
            Check.due("34: a KEEPING instead of a ROW", x.keep(shelf, 1), 1);
            Check.due("36: it has no elements", x.put(shelf, 0, 1), -12);
            Check.due("37: it has no elements", x.element(shelf, 0), NONE);
            Check.due("34: nothing (body -1)", x.keep(shelf, -1), 1);
            Check.due("36: nothing is there", x.put(shelf, 0, 1), -11);
        }
    }

    private static void rowsOfAllSizes() {
        for (int sort = 0; sort < 5; sort++) {
            for (int n : new int[] {0, 1, 2, 59, 60}) {
                EightWorlds x = new EightWorlds();
                Check.due("0 .. 60 elements, " + n, x.row(sort, sort, n), 1);
                for (int i = 0; i < n; i++) {
                    Check.due("0 at first (false)", x.element(sort, i), 0);
                }
                Check.due("-13, behind the last", x.put(sort, n, 1), -13);
                Check.due("-13, ahead of the first", x.put(sort, -1, 1), -13);
                Check.due("37: behind the last", x.element(sort, n), NONE);
                Check.due("37: ahead of the first", x.element(sort, -1), NONE);
                if (n > 0) {
                    Check.due("36: the last", x.put(sort, n - 1, 1), 1);
                    Check.due("37: the last", x.element(sort, n - 1), 1);
                    Check.due("36: the first", x.put(sort, 0, 1), 1);
                    Check.due("37: the first", x.element(sort, 0), 1);
                }
            }
        }
    }

    private static void newRows() {
        EightWorlds x = withBodies(0);
        x.row(0, 3, 60);
        for (int i = 0; i < 60; i++) {
            x.put(0, i, -1 - i);
        }
        Check.due("35: a smaller one", x.row(0, 3, 2), 1);
        Check.due("0 at first", x.element(0, 0), 0);
        Check.due("35: has two elements", x.element(0, 2), NONE);
        Check.due("35: a greater one", x.row(0, 3, 60), 1);
        for (int i = 0; i < 60; i++) {
            Check.due("0 at first, where others were", x.element(0, i), 0);
        }
        x.put(0, 1, 1L << 33);
        x.keep(0, 0);
        x.row(0, 3, 2);
        Check.due("0 at first, behind a KEEPING", x.element(0, 1), 0);
        x.put(0, 1, 300);
        x.row(0, 0, 2);
        x.put(0, 1, 300);
        Check.due("35: of the new sort", x.element(0, 1), 44);
    }

    private static void kept(int sort, long v, long due) {
        EightWorlds x = new EightWorlds();
        x.row(0, sort, 3);
        x.put(0, 0, 1);
        x.put(0, 2, 1);
        Check.due("36: 1", x.put(0, 1, v), 1);
        Check.due("keeps its lowest bits, sort " + sort + ", " + v, x.element(0, 1), due);
        Check.due("the one ahead", x.element(0, 0), 1);
        Check.due("the one behind", x.element(0, 2), 1);
    }

    private static void lowestBits() {
        long[][] due = {{127, 127}, {128, -128}, {-128, -128}, {-129, 127}, {255, -1}, {256, 0}, {257, 1}, {-256, 0}};
        for (long[] one : due) {
            kept(0, one[0], one[1]);
            kept(1, one[0] << 8, one[1] << 8);
            kept(2, one[0] << 24, one[1] << 24);
            kept(3, one[0] << 24, one[0] << 24);
        }
        kept(1, 32767, 32767);
        kept(1, 32768, -32768);
        kept(1, -32769, 32767);
        kept(1, 65535, -1);
        kept(1, 65536, 0);
        kept(2, MAX, MAX);
        kept(2, 1L + MAX, MIN);
        kept(2, MIN - 1L, MAX);
        kept(2, (1L << 32) - 1, -1);
        kept(2, 1L << 32, 0);
        for (int sort = 0; sort < 3; sort++) {
            kept(sort, Long.MAX_VALUE, -1);
            kept(sort, Long.MIN_VALUE, 0);
        }
        kept(3, Long.MAX_VALUE, Long.MAX_VALUE);
        kept(3, Long.MIN_VALUE, Long.MIN_VALUE);
    }

    private static void lowestBitsOfBooleans() {
        for (long v : new long[] {1, -1, 2, 256, 1L << 16, 1L << 32, 1L << 63, Long.MAX_VALUE, MIN, MAX}) {
            kept(4, v, 1);
        }
        kept(4, 0, 0);
        EightWorlds x = new EightWorlds();
        x.row(0, 4, 1);
        x.put(0, 0, 5);
        x.put(0, 0, 0);
        Check.due("a boolean: whether it is not 0", x.element(0, 0), 0);
    }

    private static void refusedRowsStay() {
        EightWorlds x = withBodies(0);
        x.row(0, 0, 60);
        x.put(0, 59, 7);
        Check.due("n above 60", x.row(0, 1, 61), BAD);
        Check.due("-14 a size below 0", x.row(0, 1, -1), -14);
        Check.due("sort", x.row(0, 5, 3), BAD);
        Check.due("34: no such KEEPING", x.keep(0, 1), BAD);
        Check.due("what is answered so changes nothing", x.element(0, 59), 7);
        x.put(0, 59, 300);
        Check.due("what is answered so changes nothing", x.element(0, 59), 44);
    }

    /** A ROW of this sort: first, first + 1 .. */
    private static void fill(EightWorlds x, int shelf, int sort, int n, int first) {
        x.row(shelf, sort, n);
        for (int i = 0; i < n; i++) {
            x.put(shelf, i, first + i);
        }
    }

    private static void stands(EightWorlds x, int shelf, int... due) {
        for (int i = 0; i < due.length; i++) {
            Check.due("38: element " + i, x.element(shelf, i), due[i]);
        }
        Check.due("38: no more", x.element(shelf, due.length), NONE);
    }

    private static void shiftsOfNone() {
        EightWorlds x = new EightWorlds();
        fill(x, 0, 2, 3, 10);
        fill(x, 1, 2, 2, 20);
        x.row(2, 2, 0);
        Check.due("38: none from the beginning", x.shift(0, 0, 1, 0, 0), 0);
        Check.due("38: none from the end", x.shift(0, 3, 1, 2, 0), 0);
        Check.due("38: none from behind the end", x.shift(0, 4, 1, 2, 0), -13);
        Check.due("38: none to behind the end", x.shift(0, 3, 1, 3, 0), -13);
        Check.due("38: none of none", x.shift(2, 0, 2, 0, 0), 0);
        Check.due("38: none of none to another one", x.shift(2, 0, 0, 3, 0), 0);
        Check.due("38: one of none", x.shift(2, 0, 0, 0, 1), -13);
        Check.due("38: one into none", x.shift(0, 0, 2, 0, 1), -13);
        stands(x, 0, 10, 11, 12);
        stands(x, 1, 20, 21);
    }

    private static void shiftsOfAll() {
        EightWorlds x = new EightWorlds();
        fill(x, 0, 2, 60, 100);
        x.row(1, 2, 60);
        Check.due("38: all sixty", x.shift(0, 0, 1, 0, 60), 60);
        Check.due("38: the first", x.element(1, 0), 100);
        Check.due("38: the last", x.element(1, 59), 159);
        Check.due("38: the last to the first", x.shift(0, 59, 1, 0, 1), 1);
        Check.due("38: the last to the first", x.element(1, 0), 159);
        Check.due("38: the first to the last", x.shift(0, 0, 1, 59, 1), 1);
        Check.due("38: the first to the last", x.element(1, 59), 100);
        Check.due("38: one too many", x.shift(0, 1, 1, 0, 60), -13);
        Check.due("38: one too many", x.shift(0, 0, 1, 1, 60), -13);
        Check.due("38: a place and n that wrap", x.shift(0, 2, 1, 2, MAX), -13);
        Check.due("38: a place and n that wrap", x.shift(0, MAX, 1, 0, MAX), -13);
        Check.due("38: nothing is changed", x.element(1, 2), 102);
        Check.due("38: the same to itself", x.shift(0, 0, 0, 0, 60), 60);
        Check.due("38: as it was", x.element(0, 30), 130);
    }

    private static void shiftsOverThemselves() {
        EightWorlds x = new EightWorlds();
        fill(x, 0, 2, 6, 10);
        Check.due("as they all were before, up", x.shift(0, 0, 0, 1, 5), 5);
        stands(x, 0, 10, 10, 11, 12, 13, 14);
        fill(x, 0, 2, 6, 10);
        Check.due("as they all were before, down", x.shift(0, 1, 0, 0, 5), 5);
        stands(x, 0, 11, 12, 13, 14, 15, 15);
        fill(x, 0, 2, 6, 10);
        Check.due("as they all were before, by two", x.shift(0, 1, 0, 3, 3), 3);
        stands(x, 0, 10, 11, 12, 11, 12, 13);
    }

    private static void shiftsOfEachSort() {
        for (int sort = 0; sort < 5; sort++) {
            for (int other = 0; other < 5; other++) {
                EightWorlds x = new EightWorlds();
                x.row(0, sort, 2);
                x.row(1, other, 2);
                x.put(0, 1, -1);
                Check.due("or of unlike sorts, " + sort + " " + other, x.shift(0, 1, 1, 0, 1), sort == other ? 1 : -12);
                int due = sort != other ? 0 : sort == 4 ? 1 : -1;
                Check.due("38: what came", x.element(1, 0), due);
                Check.due("or of unlike sorts, though none", x.shift(0, 0, 1, 0, 0), sort == other ? 0 : -12);
            }
        }
        EightWorlds x = new EightWorlds();
        x.row(0, 3, 1);
        x.row(5, 3, 1);
        x.put(0, 0, Long.MAX_VALUE);
        Check.due("38: all of a long", x.shift(0, 0, 5, 0, 1), 1);
        Check.due("38: all of a long", x.element(5, 0), Long.MAX_VALUE);
    }

    private static void taken() {
        String[] under = {"0", "01", "02", "023", "04", "025", "016", "07"};
        EightWorlds x = withBodies(0, 1, 2, 3, 4, 5, 6, 7);
        for (int kind = 0; kind < 8; kind++) {
            x.keep(5, kind);
            for (int k = 0; k < 8; k++) {
                boolean is = under[kind].indexOf('0' + k) >= 0;
                Check.due("of KIND k, or under it: " + kind + " for " + k, x.taken(5, k), is ? kind : -12);
            }
            Check.due("39: BAD", x.taken(5, -1), BAD);
            Check.due("39: BAD", x.taken(5, 8), BAD);
        }
    }

    /** What is taken is the KEEPING of the SHELF, not one that came later, or one that was there. */
    private static void takenOfWhatIsKept() {
        EightWorlds x = withBodies(3);
        x.keep(0, 0);
        x.body(4);
        x.keep(1, 1);
        Check.due("39: the one", x.taken(0, 2), 3);
        Check.due("39: the other", x.taken(1, 4), 4);
        x.row(0, 0, 0);
        Check.due("39: a ROW of no elements", x.taken(0, 3), -12);
        x.keep(0, -1);
        Check.due("39: nothing is there", x.taken(0, 3), -11);
        Check.due("39: the other stays", x.taken(1, 0), 4);
    }

    private static void counts() {
        EightWorlds x = withBodies(0, 0, 0, 7);
        for (int s = 0; s < 5; s++) {
            x.song(s);
        }
        Check.law(x, "w");
        Check.law(x, "w");
        Check.law(x, "w)");
        x.world(0, 0, 0);
        Check.type(x, "123456");
        for (int v = 1; v <= 8; v++) {
            x.nothing(0, v);
        }
        x.undo();
        x.act(3, 3, 0);
        int[] due = {5, 2, 1, 6, 7, 4, 7};
        for (int what = 0; what < 7; what++) {
            Check.due("40: count(" + what + ")", x.count(what), due[what]);
        }
        x.redo();
        Check.due("4 changes that may be UNDONE", x.count(4), 8);
    }

    private static void countsOfAll() {
        EightWorlds x = new EightWorlds();
        for (int s = 0; s < 14; s++) {
            x.song(1);
        }
        for (int law = 0; law < 8; law++) {
            Check.law(x, "w");
        }
        for (int w = 0; w < 11; w++) {
            x.world(0, 0, w);
        }
        for (int b = 0; b < 52; b++) {
            x.body(7);
        }
        for (int v = 2; v < 52; v++) {
            x.worth(0, v);
        }
        Check.type(x, "w".repeat(118));
        x.act(0, 3, 0);
        int[] due = {12, 6, 9, 120, 40, 50, 7};
        for (int what = 0; what < 7; what++) {
            Check.due("40: the most of " + what, x.count(what), due[what]);
        }
    }
}
