import java.util.List;

/**
 * Every refusal that a promise names, from the nearest wrong number on: what is answered, which one of several,
 * and that "what is answered so changes nothing": one of two objects that are alike is told the refused call,
 * and behind it both still answer alike.
 */
public final class RefusalsTest {
    private static final int MIN = Integer.MIN_VALUE, MAX = Integer.MAX_VALUE;
    private static final int BAD = EightWorlds.BAD, NOT = EightWorlds.NOT, FULL = EightWorlds.FULL;
    private static final int BIG = EightWorlds.BIG, STATE = EightWorlds.STATE, VOID = EightWorlds.VOID;
    private static final long NO_ELEMENT = Long.MIN_VALUE;

    /** States to begin from: nothing at all; three SONGS and two WORLDS; all that there may be. */
    private enum State {
        EMPTY, SOME, ALL;

        private List<Long> answers;

        EightWorlds made() {
            return this == EMPTY ? new EightWorlds() : this == SOME ? some() : all();
        }

        List<Long> answers() {
            if (answers == null) {
                answers = Answers.of(made());
            }
            return answers;
        }
    }

    private interface Call {
        long on(EightWorlds x, int v);
    }

    public static void main(String[] args) {
        for (State state : State.values()) {
            // 160 calls make the greatest state, some twenty more are asked
            Check.holds("no more than 512 calls of an object", state.answers().size() < 512 - 180);
        }
        songsAndLaws();
        worlds();
        comers();
        unlikes();
        guesses();
        chartsAndCrates();
        housesAndTexts();
        linesAndChanges();
        bodies();
        shelves();
        elements();
        shifts();
        wrongWorlds();
        wrongSongs();
        wrongShelves();
        wrongPairs();
        Check.end("RefusalsTest");
    }

    private static EightWorlds some() {
        EightWorlds x = Check.withSongs(10, 20, 30);
        Check.law(x, "w");
        Check.law(x, "c+1");
        x.world(1, 5, 7);
        x.world(12, 30002, 9);
        x.come(0, 9);
        x.come(1, 2);
        x.shop(1, 4);
        x.worth(1, 25);
        x.nothing(0, 6);
        x.crate(1, 2, 40);
        x.crate(1, 0, 3);
        x.undo();
        Check.type(x, "w+7");
        x.body(0);
        x.body(7);
        x.row(0, 0, 3);
        x.put(0, 1, 2);
        x.keep(1, 1);
        x.row(2, 3, 3);
        x.put(2, 2, 1L << 40);
        x.row(3, 3, 60);
        x.act(1, 3, 4);
        return x;
    }

    private static EightWorlds all() {
        EightWorlds x = Check.withSongs(1, 2, 3, 4, 5, 6, 7, 8, 9, 10, 11, 12);
        for (int law = 0; law < 6; law++) {
            Check.law(x, "w+" + law);
        }
        for (int w = 0; w < 9; w++) {
            x.world(w % 6 * 10 + w % 3, 50000, w);
        }
        x.come(0, 200);
        x.come(0, 1);
        for (int i = 0; i < 41; i++) {
            x.worth(i % 12, 900 + i);
        }
        Check.type(x, "0?w;".repeat(29) + "w*77");
        for (int b = 0; b < 50; b++) {
            x.body(b % 8);
        }
        return x;
    }

    private static void each(String what, State state, Call call, long want, int... values) {
        for (int v : values) {
            EightWorlds x = state.made();
            Check.due(what + " (" + state + ", " + v + ")", call.on(x, v), want);
            Check.holds(what + " (" + state + ", " + v + ") changes nothing", Answers.of(x).equals(state.answers()));
        }
    }

    private static void songsAndLaws() {
        each("2: BAD", State.SOME, (x, v) -> x.song(v), BAD, -1, 1000, MIN, MAX);
        each("2: FULL", State.ALL, (x, v) -> x.song(v), FULL, 0, 999);
        each("2: BAD ahead of FULL", State.ALL, (x, v) -> x.song(v), BAD, -1, 1000);
        each("3: BAD", State.SOME, (x, v) -> x.worth(2, v), BAD, -1, 1000, MIN, MAX);
        each("4: BAD", State.SOME, (x, v) -> x.feed(v, 'w'), BAD, 0, 5, -1, MIN, MAX);
        each("4: FULL", State.ALL, (x, v) -> x.feed(v, 'w'), FULL, 1, 2, 3, 4);
        each("4: BAD ahead of FULL", State.ALL, (x, v) -> x.feed(v, 'w'), BAD, 0, 5);
        each("5: FULL, and THE TAPE stays", State.ALL, (x, v) -> x.law(), FULL, 0);
    }

    private static void worlds() {
        each("6: BAD ls", State.SOME, (x, v) -> x.world(v, 0, 1), BAD,
            3, 9, 13, 19, 20, 21, 22, -1, -9, -10, MIN, MAX);
        each("6: BAD un", State.SOME, (x, v) -> x.world(1, v, 1), BAD, -1, -10000, 10000000, MIN, MAX);
        each("6: BAD un of UPSIDE DOWN", State.SOME, (x, v) -> x.world(2, v, 1), BAD, -1, 10000000);
        each("6: no LAW", State.EMPTY, (x, v) -> x.world(v, 0, 1), BAD, 0, 1, 2);
        each("6: no seventh LAW", State.ALL, (x, v) -> x.world(v, 0, 1), BAD, 60, 61, 62);
        each("6: FULL", State.ALL, (x, v) -> x.world(v, 0, 1), FULL, 0, 52);
        each("6: BAD ahead of FULL", State.ALL, (x, v) -> x.world(0, v, 1), BAD, -1, 10000000);
        each("7: BAD", State.SOME, (x, v) -> x.nothing(1, v), BAD, -1, 10000, MIN, MAX);
        each("8: BAD", State.SOME, (x, v) -> x.of(0, v), BAD,
            -1, 5, 99, 103, 111, 199, 203, 303, 403, 499, 500, 600, 1100, -100, MIN, MAX);
        each("8: BAD of twelve", State.ALL, (x, v) -> x.of(8, v), BAD, 112, 212, 312, 412, 500);
    }

    private static void comers() {
        each("10: BAD", State.SOME, (x, v) -> x.come(0, v), BAD, 0, 201, -1, MIN, MAX);
        each("11: BAD", State.SOME, (x, v) -> x.keepings(0, 0, 0, v), BAD, 0, 61, -1, MIN, MAX);
        each("11: a row of longs", State.SOME, (x, v) -> x.keepings(0, 2, v, 60), -12, 0, -1, 3, MIN, MAX);
        each("11: a KEEPING", State.SOME, (x, v) -> x.keepings(0, 1, v, 1), -12, 0, -1, MAX);
        each("11: BAD ahead of -12", State.SOME, (x, v) -> x.keepings(0, 2, 0, v), BAD, 0, 61);
        each("11: BAD WORLD ahead of -12", State.SOME, (x, v) -> x.keepings(v, 1, 0, 1), BAD, -1, 2);
        each("11: none came", State.SOME, (x, v) -> x.keepings(0, 0, v, 60), 0, -1, 3, 60, MIN, MAX);
        each("11: missing", State.SOME, (x, v) -> x.keepings(0, 5, v, 60), 0, 0, -1, 59, MAX);
        each("11: BAD where it is missing", State.SOME, (x, v) -> x.keepings(0, 5, 0, v), BAD, 0, 61);
        each("12: BAD", State.SOME, (x, v) -> x.led(1, v), BAD, -1, 2, 200, MIN, MAX);
        each("12: of those that are kept", State.ALL, (x, v) -> x.led(0, v), BAD, 200, 201, -1);
        each("12: none KEPT", State.ALL, (x, v) -> x.led(8, v), BAD, 0, -1);
    }

    private static void unlikes() {
        each("15: BAD LAW", State.SOME, (x, v) -> x.luck(v, 0), BAD, -1, 2, 6, MIN, MAX);
        each("15: BAD SONG", State.SOME, (x, v) -> x.luck(0, v), BAD, -2, 3, 12, MIN, MAX);
        each("15: NOT, one WORLD of it", State.SOME, (x, v) -> x.luck(1, v), NOT, -1, 0, 2);
        each("15: BAD ahead of NOT", State.SOME, (x, v) -> x.luck(1, v), BAD, -2, 3);
        each("15: no LAWS", State.EMPTY, (x, v) -> x.luck(0, v), BAD, -1, 0);
        each("16: NOT", State.ALL, (x, v) -> x.right(v), NOT, 1, 8);
    }

    private static void guesses() {
        each("17: BAD WORLDS", State.SOME, (x, v) -> x.guess(v, 0), BAD, 4, 5, 7, 256, -1, MIN, MAX);
        each("17: BAD what", State.SOME, (x, v) -> x.guess(3, v), BAD, -1, 2, MIN, MAX);
        each("17: BAD of nine", State.ALL, (x, v) -> x.guess(v, 1), BAD, 512, 513, 1024, -1);
        each("17: NOT", State.ALL, (x, v) -> x.guess(v, 0), NOT, 0, 2, 256, 510);
        each("17: NOT", State.ALL, (x, v) -> x.guess(v, 1), NOT, 0, 2, 256, 510);
        each("17: BAD ahead of NOT", State.ALL, (x, v) -> x.guess(0, v), BAD, -1, 2);
        each("17: no WORLDS", State.EMPTY, (x, v) -> x.guess(0, v), NOT, 0, 1);
        each("17: no such WORLD", State.EMPTY, (x, v) -> x.guess(1, v), BAD, 0, 1);
        each("18: BAD m", State.SOME, (x, v) -> x.odds(0, 0, v, 0), BAD, -1, 7, MIN, MAX);
        each("18: BAD what", State.SOME, (x, v) -> x.odds(0, 0, 1, v), BAD, -1, 2, MIN, MAX);
        each("18: BIG", State.ALL, (x, v) -> x.odds(8, 11, v, 1), BIG, 0, 1, 6);
        each("18: BAD ahead of BIG", State.ALL, (x, v) -> x.odds(0, 0, v, 0), BAD, -1, 7);
        each("18: BAD ahead of BIG", State.ALL, (x, v) -> x.odds(0, 0, 1, v), BAD, -1, 2);
        each("19: NOT", State.ALL, (x, v) -> x.after(v), NOT, 1, 8);
        each("19: STATE", State.ALL, (x, v) -> x.after(v), STATE, 0);
    }

    private static void chartsAndCrates() {
        each("20: BAD", State.SOME, (x, v) -> x.shop(0, v), BAD, -1, 10, MIN, MAX);
        each("21: BAD i", State.SOME, (x, v) -> x.chart(v, 0), BAD, -1, 3, 12, MIN, MAX);
        each("21: BAD i of twelve", State.ALL, (x, v) -> x.chart(v, 1), BAD, -1, 12);
        each("21: BAD what", State.SOME, (x, v) -> x.chart(0, v), BAD, -1, 2, MIN, MAX);
        each("21: no SONGS", State.EMPTY, (x, v) -> x.chart(0, v), BAD, 0, 1);
        each("22: BAD", State.SOME, (x, v) -> x.crate(0, 0, v), BAD, 0, 10000, -1, MIN, MAX);
        each("23: BAD what", State.SOME, (x, v) -> x.found(0, v), BAD, -1, 2, MIN, MAX);
        each("23: NOT, no COUNTS", State.ALL, (x, v) -> x.found(8, v), NOT, 0, 1);
        each("23: BAD ahead of NOT", State.ALL, (x, v) -> x.found(8, v), BAD, -1, 2);
    }

    private static void housesAndTexts() {
        each("24: BAD SONGS", State.SOME, (x, v) -> x.house(0, v, 1, 0), VOID, 8, 9, 15, 4096, -1, MIN, MAX);
        each("24: BAD SONGS of twelve", State.ALL, (x, v) -> x.house(0, v, 1, 3), VOID, 4096, 8191, -1);
        each("24: BAD h", State.SOME, (x, v) -> x.house(0, 1, v, 0), VOID, 0, 4, 12, 13, -1, MIN, MAX);
        each("24: BAD h of twelve", State.ALL, (x, v) -> x.house(0, 1, v, 2), VOID, 0, 13);
        each("24: BAD what", State.SOME, (x, v) -> x.house(0, 1, 1, v), VOID, -1, 4, MIN, MAX);
        each("25: BAD LAW", State.SOME, (x, v) -> x.said(v, -1), BAD, -1, 2, 6, MIN, MAX);
        each("25: BAD WORLD", State.SOME, (x, v) -> x.said(0, v), BAD, -2, 2, 9, MIN, MAX);
        each("25: BIG", State.ALL, (x, v) -> x.said(v, -1), BIG, 0, 5);
        each("25: BAD ahead of BIG", State.ALL, (x, v) -> x.said(v, -1), BAD, -1, 6);
        each("26: BAD n", State.SOME, (x, v) -> x.strong(1, v, 3), VOID, 0, 401, -1, MIN, MAX);
        each("26: BAD LAWS", State.SOME, (x, v) -> x.strong(v, 5, 3), VOID,
            0, 11, 2, 9, 20, 21, 100, -1, -9, -10, -11, MIN, MAX);
        each("26: BAD LAWS of six", State.ALL, (x, v) -> x.strong(v, 5, 3), VOID, 0, 33, 55, 6, 56, 60, 65);
    }

    private static void linesAndChanges() {
        each("28: BAD n", State.SOME, (x, v) -> x.against(1, 3, v), BAD, 0, 51, -1, MIN, MAX);
        each("29: STATE", State.EMPTY, (x, v) -> x.undo(), STATE, 0);
        each("30: STATE", State.EMPTY, (x, v) -> x.redo(), STATE, 0);
        each("30: STATE", State.ALL, (x, v) -> x.redo(), STATE, 0);
    }

    private static void bodies() {
        each("31: BAD", State.SOME, (x, v) -> x.body(v), BAD, -1, 8, MIN, MAX);
        each("31: FULL", State.ALL, (x, v) -> x.body(v), FULL, 0, 7);
        each("31: BAD ahead of FULL", State.ALL, (x, v) -> x.body(v), BAD, -1, 8);
        each("33: BAD", State.SOME, (x, v) -> x.trace(v), BAD, -1, 7, 23, 24, 25, MIN, MAX);
        each("33: BAD, none ran", State.EMPTY, (x, v) -> x.trace(v), BAD, 0, -1);
        each("34: BAD", State.SOME, (x, v) -> x.keep(0, v), BAD, -2, 2, 50, MIN, MAX);
        each("34: BAD of fifty", State.ALL, (x, v) -> x.keep(0, v), BAD, -2, 50);
        each("40: BAD", State.SOME, (x, v) -> x.count(v), BAD, -1, 7, MIN, MAX);
    }

    private static void shelves() {
        each("35: BAD sort", State.SOME, (x, v) -> x.row(0, v, 3), BAD, -1, 5, MIN, MAX);
        each("35: BAD n", State.SOME, (x, v) -> x.row(0, 0, v), BAD, 61, MAX);
        each("35: -14", State.SOME, (x, v) -> x.row(0, 0, v), -14, -1, MIN);
        each("35: -14 where a KEEPING is", State.SOME, (x, v) -> x.row(1, 4, v), -14, -1, MIN);
        each("35: BAD sort ahead of -14", State.SOME, (x, v) -> x.row(0, v, -1), BAD, -1, 5);
        each("35: BAD SHELF ahead of -14", State.SOME, (x, v) -> x.row(v, 0, -1), BAD, -1, 6);
        each("39: BAD", State.SOME, (x, v) -> x.taken(1, v), BAD, -1, 8, MIN, MAX);
        each("39: -11", State.SOME, (x, v) -> x.taken(5, v), -11, 0, 7);
        each("39: BAD ahead of -11", State.SOME, (x, v) -> x.taken(5, v), BAD, -1, 8);
        each("39: -12, it is not under it", State.SOME, (x, v) -> x.taken(1, v), -12, 1, 2, 3, 4, 5, 6);
        each("39: -12, a ROW", State.SOME, (x, v) -> x.taken(0, v), -12, 0, 7);
        each("39: BAD ahead of -12", State.SOME, (x, v) -> x.taken(0, v), BAD, -1, 8);
    }

    private static void elements() {
        each("36: -11", State.SOME, (x, v) -> x.put(5, v, 1), -11, 0, -1, 60, MIN, MAX);
        each("36: -12", State.SOME, (x, v) -> x.put(1, v, 1), -12, 0, -1, 60, MIN, MAX);
        each("36: -13", State.SOME, (x, v) -> x.put(0, v, 1), -13, -1, 3, 59, 60, MIN, MAX);
        each("36: -13 of sixty", State.SOME, (x, v) -> x.put(3, v, 1), -13, -1, 60);
        each("36: BAD ahead of -13", State.SOME, (x, v) -> x.put(6, v, 1), BAD, -1, 60);
        each("37: -11", State.SOME, (x, v) -> x.element(5, v), NO_ELEMENT, 0, -1, 60);
        each("37: -12", State.SOME, (x, v) -> x.element(1, v), NO_ELEMENT, 0, -1, 60);
        each("37: -13", State.SOME, (x, v) -> x.element(0, v), NO_ELEMENT, -1, 3, 59, 60, MIN, MAX);
        each("37: -13 of sixty", State.SOME, (x, v) -> x.element(3, v), NO_ELEMENT, -1, 60);
    }

    private static void shifts() {
        each("38: -11, the one", State.SOME, (x, v) -> x.shift(5, v, 0, 0, 1), -11, 0, -1, MAX);
        each("38: -11, the other", State.SOME, (x, v) -> x.shift(0, 0, 5, v, 1), -11, 0, -1, MAX);
        each("38: -11 ahead of -12", State.SOME, (x, v) -> x.shift(1, 0, 5, 0, v), -11, 1, 0, -1);
        each("38: -12, the one", State.SOME, (x, v) -> x.shift(1, v, 0, 0, 1), -12, 0, -1, MAX);
        each("38: -12, the other", State.SOME, (x, v) -> x.shift(0, 0, 1, v, 1), -12, 0, -1, MAX);
        each("38: -12, unlike sorts", State.SOME, (x, v) -> x.shift(0, 0, 2, 0, v), -12, 1, 0, 4);
        each("38: -13, the one's place", State.SOME, (x, v) -> x.shift(2, v, 3, 0, 1), -13, -1, 3, 60, MIN, MAX);
        each("38: -13, the other's place", State.SOME, (x, v) -> x.shift(2, 0, 3, v, 1), -13, -1, 60, MIN, MAX);
        each("38: -13, the one ends", State.SOME, (x, v) -> x.shift(2, 1, 3, 0, v), -13, 3, 60, MAX);
        each("38: -13, the other ends", State.SOME, (x, v) -> x.shift(3, 0, 2, 1, v), -13, 3, 60, MAX);
        each("38: -13, of none too", State.SOME, (x, v) -> x.shift(2, v, 3, 0, 0), -13, -1, 4, MIN, MAX);
        each("38: -13, of none too", State.SOME, (x, v) -> x.shift(3, 0, 2, v, 0), -13, -1, 4, MIN, MAX);
        each("38: -13, fewer than none", State.SOME, (x, v) -> x.shift(2, 0, 3, 0, v), -13, -1, MIN);
        each("38: -13 in the same", State.SOME, (x, v) -> x.shift(3, 0, 3, v, 60), -13, 1, -1);
    }

    /** No such WORLD: of two, of nine, of none. */
    private static void wrongWorld(String what, Call call, long want) {
        each(what, State.SOME, call, want, -2, 2, 8, 9, MIN, MAX);
        each(what, State.ALL, call, want, -2, 9, MIN, MAX);
        each(what, State.EMPTY, call, want, 0, -2);
    }

    private static void wrongWorlds() {
        wrongWorld("7: BAD WORLD", (x, v) -> x.nothing(v, 1), BAD);
        wrongWorld("8: BAD WORLD", (x, v) -> x.of(v, 0), BAD);
        wrongWorld("9: BAD WORLD", (x, v) -> x.weight(v, 0), BAD);
        wrongWorld("10: BAD WORLD", (x, v) -> x.come(v, 1), BAD);
        wrongWorld("11: BAD WORLD", (x, v) -> x.keepings(v, 0, 0, 1), BAD);
        wrongWorld("12: BAD WORLD", (x, v) -> x.led(v, 0), BAD);
        wrongWorld("13: BAD WORLD", (x, v) -> x.unequal(v), BAD);
        wrongWorld("16: BAD WORLD", (x, v) -> x.right(v), BAD);
        wrongWorld("18: BAD WORLD, ahead of BIG", (x, v) -> x.odds(v, 0, 1, 0), BAD);
        wrongWorld("19: BAD WORLD", (x, v) -> x.after(v), BAD);
        wrongWorld("20: BAD WORLD", (x, v) -> x.shop(v, 1), BAD);
        wrongWorld("22: BAD WORLD", (x, v) -> x.crate(v, 0, 1), BAD);
        wrongWorld("23: BAD WORLD", (x, v) -> x.found(v, 0), BAD);
        wrongWorld("24: BAD WORLD", (x, v) -> x.house(v, 0, 1, 0), VOID);
        wrongWorld("25: BAD WORLD, ahead of BIG", (x, v) -> x.said(0, v), BAD);
        each("-1 is no WORLD but for said", State.SOME, (x, v) -> x.of(v, 0) + x.weight(v, 0) + x.come(v, 1)
            + x.led(v, 0) + x.unequal(v) + x.right(v) + x.after(v) + x.found(v, 0), 8 * BAD, -1);
    }

    /** No such SONG: of three, of twelve, of none. */
    private static void wrongSong(String what, Call call) {
        each(what, State.SOME, call, BAD, -1, 3, 11, 12, MIN, MAX);
        each(what, State.ALL, call, BAD, -1, 12, MIN, MAX);
        each(what, State.EMPTY, call, BAD, 0, -1);
    }

    private static void wrongSongs() {
        wrongSong("3: BAD SONG", (x, v) -> x.worth(v, 1));
        wrongSong("9: BAD SONG", (x, v) -> x.weight(0, v));
        wrongSong("18: BAD SONG, ahead of BIG", (x, v) -> x.odds(0, v, 1, 0));
        wrongSong("22: BAD SONG", (x, v) -> x.crate(0, v, 1));
    }

    private static void wrongShelf(String what, Call call, long want) {
        each(what, State.SOME, call, want, -1, 6, MIN, MAX);
    }

    private static void wrongShelves() {
        wrongShelf("11: BAD SHELF", (x, v) -> x.keepings(0, v, 0, 1), BAD);
        wrongShelf("34: BAD SHELF", (x, v) -> x.keep(v, -1), BAD);
        wrongShelf("35: BAD SHELF", (x, v) -> x.row(v, 0, 1), BAD);
        wrongShelf("36: BAD SHELF", (x, v) -> x.put(v, 0, 1), BAD);
        wrongShelf("37: BAD SHELF", (x, v) -> x.element(v, 0), NO_ELEMENT);
        wrongShelf("38: BAD, the one", (x, v) -> x.shift(v, 0, 0, 0, 1), BAD);
        wrongShelf("38: BAD, the other", (x, v) -> x.shift(0, 0, v, 0, 1), BAD);
        wrongShelf("38: BAD ahead of -11", (x, v) -> x.shift(5, 0, v, 0, 1), BAD);
        wrongShelf("38: BAD ahead of -12", (x, v) -> x.shift(v, 0, 1, 0, 1), BAD);
        wrongShelf("39: BAD SHELF", (x, v) -> x.taken(v, 0), BAD);
    }

    /** WORLDS told two at once: one and the same, or one that is not there. */
    private static void wrongPairs() {
        int[] ofTwo = {0, 11, 2, 9, 12, 20, 21, 22, 100, 101, 110, -1, -9, -10, -11, MIN, MAX};
        int[] ofNine = {0, 44, 88, 9, 89, 90, 98, 99, 100, 108, -1};
        each("14: BAD", State.SOME, (x, v) -> x.unlike(v), BAD, ofTwo);
        each("14: BAD of nine", State.ALL, (x, v) -> x.unlike(v), BAD, ofNine);
        each("27: BAD", State.SOME, (x, v) -> x.line(v), BAD, ofTwo);
        each("27: BAD of nine", State.ALL, (x, v) -> x.line(v), BAD, ofNine);
        each("28: BAD", State.SOME, (x, v) -> x.against(v, 3, 5), BAD, ofTwo);
        each("28: BAD of nine", State.ALL, (x, v) -> x.against(v, 3, 5), BAD, ofNine);
    }
}
