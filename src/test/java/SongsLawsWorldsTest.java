/** Promises 1 to 12: a new object, songs, the tape, laws, worlds, who comes, keepings. */
public final class SongsLawsWorldsTest {
    private static final int MIN = Integer.MIN_VALUE, MAX = Integer.MAX_VALUE;

    public static void main(String[] args) {
        newObject();
        songs();
        worths();
        tape();
        laws();
        faults();
        texts();
        weightsAreHeld();
        worlds();
        nothing();
        ofWorld();
        shows();
        comes();
        countsStay();
        keepings();
        led();
        Check.end("SongsLawsWorldsTest");
    }

    private static void newObject() {
        EightWorlds x = new EightWorlds();
        for (int what = 0; what <= 6; what++) {
            Check.due("1: count(" + what + ")", x.count(what), 0);
        }
        Check.due("1: of(0, 0)", x.of(0, 0), EightWorlds.BAD);
        Check.due("1: weight(0, 0)", x.weight(0, 0), EightWorlds.BAD);
        Check.due("1: worth(0, 0)", x.worth(0, 0), EightWorlds.BAD);
        Check.due("1: trace(0)", x.trace(0), EightWorlds.BAD);
        Check.due("1: undo()", x.undo(), EightWorlds.STATE);
        Check.due("1: element(0, 0)", x.element(0, 0), Long.MIN_VALUE);
    }

    private static void songs() {
        EightWorlds x = new EightWorlds();
        Check.due("2: song(-1)", x.song(-1), EightWorlds.BAD);
        Check.due("2: song(1000)", x.song(1000), EightWorlds.BAD);
        Check.due("2: song(MIN)", x.song(MIN), EightWorlds.BAD);
        for (int s = 0; s < 12; s++) {
            Check.due("2: song", x.song(s == 0 ? 999 : s - 1), s);
        }
        Check.due("2: song 13", x.song(0), EightWorlds.FULL);
        Check.due("2: BAD ahead of FULL", x.song(1000), EightWorlds.BAD);
        Check.due("2: songs", x.count(0), 12);
        Check.due("2: its worth", x.worth(0, 999), 999);
    }

    private static void worths() {
        EightWorlds x = Check.withSongs(5, 7);
        Check.due("3: worth(1, 999)", x.worth(1, 999), 7);
        Check.due("3: worth(1, 0)", x.worth(1, 0), 999);
        Check.due("3: worth(1, 1000)", x.worth(1, 1000), EightWorlds.BAD);
        Check.due("3: worth(1, -1)", x.worth(1, -1), EightWorlds.BAD);
        Check.due("3: worth(2, 1)", x.worth(2, 1), EightWorlds.BAD);
        Check.due("3: worth(-1, 1)", x.worth(-1, 1), EightWorlds.BAD);
        Check.due("3: unchanged", x.worth(1, 0), 0);
        Check.due("3: other one", x.worth(0, 5), 5);
        Check.due("3: changes", x.count(4), 2);
    }

    private static void tape() {
        EightWorlds x = new EightWorlds();
        Check.due("4: feed(0, 1)", x.feed(0, 1), EightWorlds.BAD);
        Check.due("4: feed(5, 1)", x.feed(5, 1), EightWorlds.BAD);
        Check.due("4: feed(-1, 1)", x.feed(-1, 1), EightWorlds.BAD);
        // "1+2" and an upper byte that is not fed
        Check.due("4: feed(3, ..)", x.feed(3, 0x77322B31), 3);
        Check.due("4: law()", x.law(), 0);
        for (int i = 1; i <= 29; i++) {
            x.feed(4, 0x2B772B77);
        }
        Check.due("4: 118", x.feed(2, 0x2B77), 118);
        Check.due("4: 121 are too many", x.feed(3, 0x772B77), EightWorlds.FULL);
        Check.due("4: 122 are too many", x.feed(4, 0x772B77), EightWorlds.FULL);
        Check.due("4: none of them came", x.count(3), 118);
        Check.due("4: 119", x.feed(1, 'w'), 119);
        Check.due("4: 120", x.feed(1, '0'), 120);
        Check.due("4: full", x.feed(1, '0'), EightWorlds.FULL);
        Check.due("4: BAD ahead of FULL", x.feed(9, '0'), EightWorlds.BAD);
        Check.due("4: the fault of it", x.law(), -100 - 119);
    }

    private static void laws() {
        EightWorlds x = new EightWorlds();
        for (int i = 0; i < 6; i++) {
            Check.due("5: law", Check.law(x, "w+" + i), i);
            Check.due("5: the tape is empty", x.count(3), 0);
        }
        Check.type(x, "w+9");
        Check.due("5: FULL", x.law(), EightWorlds.FULL);
        Check.due("5: the tape stays", x.count(3), 3);
        Check.due("5: laws", x.count(1), 6);
        EightWorlds y = new EightWorlds();
        StringBuilder longest = new StringBuilder("w");
        while (longest.length() < 119) {
            longest.append(";w");
        }
        Check.due("5: the longest text", Check.law(y, longest.append('0').toString()), -100 - 119);
        Check.due("5: the longest text", Check.law(y, longest.substring(0, 119)), 0);
        Check.due("5: 120 signs", Check.law(y, longest.substring(0, 113) + "|(c+12)"), 1);
    }

    private static void fault(String text, int place) {
        EightWorlds x = new EightWorlds();
        Check.due("5: fault of " + text, Check.law(x, text), place < 0 ? 0 : -100 - place);
        Check.due("5: the tape behind " + text, x.count(3), 0);
    }

    private static void faults() {
        fault("", 0);
        fault("w", -1);
        fault("x", 0);
        fault(" w", 0);
        fault("w ", 1);
        fault("w;", 2);
        fault(";w", 0);
        fault("w;;w", 2);
        fault("w?c", -1);
        fault("w?", 2);
        fault("w?c?p", 3);
        fault("(w?c)", 2);
        fault("(w;c)", 2);
        fault("w?c;p?i;0", -1);
        fault("1234", -1);
        fault("12345", 4);
        fault("0000", -1);
        fault("00000", 4);
        fault("1w", 1);
        fault("w1", 1);
        fault("ww", 1);
        fault("w<c", -1);
        fault("w<c<p", 3);
        fault("w<c=p", 3);
        fault("w<c&p>i|t=k", -1);
        fault("w<(c<p)", -1);
        fault("w<(c<p", 6);
        fault("w<=c", 2);
        fault("w==c", 2);
        fault("w!c", 1);
        fault("w!=c", 1);
        fault("w--c", -1);
        fault("w-!-c", -1);
        fault("w+-c", -1);
        fault("w+*c", 2);
        fault("(w", 2);
        fault("w)", 1);
        fault("()", 1);
        fault("((w)", 4);
        fault("((w))", -1);
        fault("((((((w))))))", -1);
        fault("(((((((w)))))))", 6);
        fault("!!!!!!w", -1);
        fault("!!!!!!!w", 6);
        fault("------w", -1);
        fault("-------w", 6);
        fault("w--------w", 8);
        fault("w-------w", -1);
        fault("w------w", -1);
        fault("!-(!-(w))", -1);
        fault("!-(!-((w)))", 6);
        fault("!-(!-(w))*!-(!-(!w))", 16);
        fault("-w*-w*-w*-w*-w*-w*-w*-w", -1);
        fault("(!w+!w+!w+!w+!w+!w+!w)", -1);
        fault("w&", 2);
        fault("&w", 0);
        fault("w|&c", 2);
        fault("\u0080", 0);
        fault("w\u00e9", 1);
        fault("w\u0000", 1);
    }

    /** WEIGHT of SONG 2 (WORTH 300) of four, in a new WORLD that shows its list in order. */
    private static void weighs(String text, int want) {
        EightWorlds x = Check.withSongs(100, 200, 300, 400);
        Check.due("5: law " + text, Check.law(x, text), 0);
        x.world(1, 0, 1);
        Check.counts(x, 0, 9, 3, 20, 0);
        Check.keep(x, 0, 1, -1, -1, 2);
        Check.due("9: weight by " + text, x.weight(0, 2), want);
    }

    private static void texts() {
        weighs("w", 300);
        weighs("c", 21);
        weighs("p*10+7", 7);
        weighs("n", 4);
        weighs("t", 4);
        weighs("k", 2);
        weighs("i", 2);
        weighs("1+2*3", 7);
        weighs("(1+2)*3", 9);
        weighs("20-5-3", 12);
        weighs("100/7/3", 4);
        weighs("100%7*3", 6);
        weighs("2*7/3", 4);
        weighs("0-7/2+10", 7);
        weighs("-7/2+10", 7);
        weighs("-7%4+10", 7);
        weighs("7%-4", 3);
        weighs("5/0+3", 3);
        weighs("5%0+3", 3);
        weighs("!0", 1);
        weighs("!7", 0);
        weighs("!w+5", 5);
        weighs("-3+5", 2);
        weighs("--3", 3);
        weighs("!-3", 0);
        weighs("-!0+5", 4);
        weighs("1<2", 1);
        weighs("2<2", 0);
        weighs("2>2", 0);
        weighs("3>2", 1);
        weighs("2=2", 1);
        weighs("2=3", 0);
        weighs("7&9", 1);
        weighs("7&0", 0);
        weighs("0|9", 1);
        weighs("0|0", 0);
        weighs("1|0&0", 1);
        weighs("(1|0)&0", 0);
    }

    private static void weightsAreHeld() {
        weighs2("0?5;7", 7);
        weighs2("1?5;7", 5);
        weighs2("-1?5;7", 5);
        weighs2("0?5", 0);
        weighs2("0?5;0?6;0?7", 0);
        weighs2("0?5;1?6;1?7", 6);
        weighs2("3;1?6;9", 3);
        weighs2("w>500?9999;w", 300);
        weighs2("9999+1", 9999);
        weighs2("9999*9999*9999", heldOf(9999 * 9999 * 9999));
        weighs2("0-1", 0);
        weighs2("-9999", 0);
        // MIN / -1 and MIN % -1: ints that wrap
        weighs2("1024*1024*1024*2/-1<0", 1);
        weighs2("1024*1024*1024*2%-1+4", 4);
        // every byte of the longest text writes its mark
        weighs2("0?w;".repeat(29) + "w*!c", 300);
    }

    private static int heldOf(int v) {
        return Math.max(0, Math.min(9999, v));
    }

    private static void weighs2(String text, int want) {
        EightWorlds x = Check.withSongs(300);
        Check.due("5: law " + text, Check.law(x, text), 0);
        x.world(1, 0, 1);
        Check.due("9: weight by " + text, x.weight(0, 0), want);
        Check.due("9: weight(0, 1)", x.weight(0, 1), EightWorlds.BAD);
        Check.due("9: weight(0, -1)", x.weight(0, -1), EightWorlds.BAD);
        Check.due("9: weight(1, 0)", x.weight(1, 0), EightWorlds.BAD);
        Check.due("9: weight(-1, 0)", x.weight(-1, 0), EightWorlds.BAD);
    }

    private static void worlds() {
        EightWorlds x = new EightWorlds();
        Check.due("6: no law", x.world(0, 0, 0), EightWorlds.BAD);
        Check.law(x, "w");
        Check.law(x, "c");
        Check.due("6: show 3", x.world(3, 0, 0), EightWorlds.BAD);
        Check.due("6: law 2", x.world(20, 0, 0), EightWorlds.BAD);
        Check.due("6: ls -1", x.world(-1, 0, 0), EightWorlds.BAD);
        Check.due("6: ls -10", x.world(-10, 0, 0), EightWorlds.BAD);
        Check.due("6: ls MIN", x.world(MIN, 0, 0), EightWorlds.BAD);
        Check.due("6: ls MAX", x.world(MAX, 0, 0), EightWorlds.BAD);
        Check.due("6: un -1", x.world(0, -1, 0), EightWorlds.BAD);
        Check.due("6: un 10000000", x.world(0, 10000000, 0), EightWorlds.BAD);
        Check.due("6: un MAX", x.world(0, MAX, 0), EightWorlds.BAD);
        for (int w = 0; w < 9; w++) {
            Check.due("6: world", x.world(w % 2 * 10 + w % 3, 9999999 - w, w), w);
        }
        Check.due("6: FULL", x.world(0, 0, 0), EightWorlds.FULL);
        Check.due("6: BAD ahead of FULL", x.world(3, 0, 0), EightWorlds.BAD);
        Check.due("6: worlds", x.count(2), 9);
        for (int w = 0; w < 9; w++) {
            Check.due("6: its law", x.of(w, 2), w % 2);
            Check.due("6: its show", x.of(w, 3), w % 3);
            Check.due("6: its nothing", x.nothing(w, 0), 9999 - w);
        }
    }

    private static void nothing() {
        EightWorlds x = Check.withSongs(1);
        Check.law(x, "w");
        x.world(0, 20005, 1);
        Check.due("7: nothing(0, 9999)", x.nothing(0, 9999), 5);
        Check.due("7: nothing(0, 10000)", x.nothing(0, 10000), EightWorlds.BAD);
        Check.due("7: nothing(0, -1)", x.nothing(0, -1), EightWorlds.BAD);
        Check.due("7: nothing(1, 1)", x.nothing(1, 1), EightWorlds.BAD);
        Check.due("7: nothing(-1, 1)", x.nothing(-1, 1), EightWorlds.BAD);
        Check.due("7: nothing(0, 0)", x.nothing(0, 0), 9999);
        Check.due("7: all keep it now", x.come(0, 50), 50);
    }

    private static void ofWorld() {
        EightWorlds x = Check.withSongs(10, 20, 30, 40);
        Check.law(x, "w");
        Check.law(x, "c");
        x.world(11, 0, 1);
        Check.due("8: first of like ones", x.of(0, 4), 0);
        Check.counts(x, 0, 3, 5, 0, 5);
        Check.keep(x, 0, 2, -1);
        int[] want = {2, 1, 1, 1, 1};
        for (int what = 0; what < 5; what++) {
            Check.due("8: of(0, " + what + ")", x.of(0, what), want[what]);
        }
        int[] counts = {3, 5, 1, 5}, places = {2, 0, 3, 1}, shares = {214, 357, 71, 357};
        for (int s = 0; s < 4; s++) {
            Check.due("8: count", x.of(0, 100 + s), counts[s]);
            Check.due("8: place", x.of(0, 200 + s), places[s]);
            Check.due("8: place seen", x.of(0, 300 + s), places[s]);
            Check.due("8: share", x.of(0, 400 + s), shares[s]);
        }
        for (int what : new int[] {-1, 5, 99, 104, 204, 304, 404, 500, 501, 1000, -100, MIN, MAX}) {
            Check.due("8: of(0, " + what + ")", x.of(0, what), EightWorlds.BAD);
        }
        Check.due("8: of(1, 0)", x.of(1, 0), EightWorlds.BAD);
        Check.due("8: of(-1, 0)", x.of(-1, 0), EightWorlds.BAD);
        Check.due("8: a later song", x.song(9), 4);
        Check.due("8: is in the world", x.of(0, 204), 4);
        Check.due("8: with no count", x.of(0, 104), 0);
        EightWorlds y = new EightWorlds();
        Check.law(y, "w");
        y.world(0, 0, 0);
        Check.due("8: first without songs", y.of(0, 4), EightWorlds.NOT);
        y.song(1);
        Check.due("8: share of no counts", y.of(0, 400), 0);
    }

    private static void shows() {
        EightWorlds x = Check.withSongs(10, 20, 30);
        Check.law(x, "c*10+p");
        x.world(0, 0, 1);
        x.world(1, 0, 1);
        x.world(2, 20000, 1);
        for (int w = 0; w < 3; w++) {
            Check.counts(x, w, 1, 4, 1);
        }
        int[] hidden = {0, 0, 0}, inOrder = {11, 40, 12}, upsideDown = {11, 42, 10};
        for (int s = 0; s < 3; s++) {
            Check.due("9: not shown", x.weight(0, s), hidden[s]);
            Check.due("9: in order", x.weight(1, s), inOrder[s]);
            Check.due("9: upside down", x.weight(2, s), upsideDown[s]);
            Check.due("8: not shown", x.of(0, 300 + s), 0);
            Check.due("8: upside down", x.of(2, 300 + s), upsideDown[s] % 10);
            Check.due("8: in order all the same", x.of(2, 200 + s), inOrder[s] % 10);
        }
        Check.keep(x, 2, -1);
        Check.due("8: still upside down", x.of(2, 301), 2);
        Check.keep(x, 2, -1);
        Check.due("8: in order when so many came", x.of(2, 301), 0);
    }

    private static void comes() {
        EightWorlds x = Check.withSongs(3, 0, 5);
        Check.law(x, "w");
        x.world(0, 2, 77);
        for (int n : new int[] {0, -1, 201, MIN, MAX}) {
            Check.due("10: come(0, " + n + ")", x.come(0, n), EightWorlds.BAD);
        }
        Check.due("10: come(1, 1)", x.come(1, 1), EightWorlds.BAD);
        Check.due("10: come(-1, 1)", x.come(-1, 1), EightWorlds.BAD);
        int z = 77, kept = 0;
        int[] counts = new int[3];
        for (int i = 0; i < 200; i++) {
            z = z * 1103515245 + 12345;
            int part = (z >>> 8) % 10;
            int song = part < 3 ? 0 : part < 8 ? 2 : -1;
            Check.due("10: come(0, 1)", x.come(0, 1), song < 0 ? 0 : 1);
            if (song >= 0) {
                counts[song]++;
                kept++;
            }
        }
        Check.due("10: came", x.of(0, 0), 200);
        Check.due("10: kept", x.of(0, 1), kept);
        for (int s = 0; s < 3; s++) {
            Check.due("10: count", x.of(0, 100 + s), counts[s]);
        }
        drawnInAnyCase();
    }

    /** A sum of 0 keeps none and draws all the same. */
    private static void drawnInAnyCase() {
        EightWorlds x = Check.withSongs(1, 1, 1);
        Check.law(x, "t<3?0;w");
        x.world(0, 0, 5);
        Check.due("10: sum 0", x.come(0, 3), 0);
        Check.due("10: they came", x.of(0, 0), 3);
        int z = 5;
        for (int i = 0; i < 4; i++) {
            z = z * 1103515245 + 12345;
        }
        Check.due("10: then one keeps", x.come(0, 1), 1);
        Check.due("10: by the fourth draw", x.led(0, 0), (z >>> 8) % 3);
        EightWorlds y = new EightWorlds();
        Check.law(y, "w");
        y.world(0, 0, 5);
        Check.due("10: no songs", y.come(0, 200), 0);
        Check.due("10: all came", y.of(0, 0), 200);
    }

    private static void countsStay() {
        EightWorlds x = Check.withSongs(1);
        Check.law(x, "1");
        x.world(0, 0, 5);
        for (int i = 0; i < 10; i++) {
            x.crate(0, 0, 9999);
        }
        Check.due("10: ahead of it", x.of(0, 100), 99990);
        Check.due("10: come", x.come(0, 12), 12);
        Check.due("10: a count of 99999 stays", x.of(0, 100), 99999);
        Check.due("10: kept all the same", x.of(0, 1), 12);
        Check.keep(x, 0, 0, 0);
        Check.due("11: a count of 99999 stays", x.of(0, 100), 99999);
        Check.due("11: kept all the same", x.of(0, 1), 14);
    }

    private static void keepings() {
        EightWorlds x = Check.withSongs(1, 2, 3);
        Check.law(x, "1");
        x.world(0, 0, 5);
        x.row(0, 0, 6);
        int[] row = {2, -1, 0, 2, 3, 1};
        for (int i = 0; i < row.length; i++) {
            x.put(0, i, row[i]);
        }
        Check.due("11: BAD world", x.keepings(1, 0, 0, 1), EightWorlds.BAD);
        Check.due("11: BAD shelf", x.keepings(0, 6, 0, 1), EightWorlds.BAD);
        Check.due("11: BAD shelf", x.keepings(0, -1, 0, 1), EightWorlds.BAD);
        Check.due("11: n 0", x.keepings(0, 0, 0, 0), EightWorlds.BAD);
        Check.due("11: n 61", x.keepings(0, 0, 0, 61), EightWorlds.BAD);
        Check.due("11: two of them", x.keepings(0, 0, 0, 2), 2);
        Check.due("11: to one that is no song", x.keepings(0, 0, 2, 60), 2);
        Check.due("11: no song at once", x.keepings(0, 0, 4, 60), 0);
        Check.due("11: to the end", x.keepings(0, 0, 5, 60), 1);
        Check.due("11: behind the end", x.keepings(0, 0, 6, 1), 0);
        Check.due("11: far behind the end", x.keepings(0, 0, MAX, 60), 0);
        Check.due("11: ahead of the row", x.keepings(0, 0, -1, 60), 0);
        Check.due("11: far ahead", x.keepings(0, 0, MIN, 60), 0);
        Check.due("11: missing", x.keepings(0, 1, 0, 60), 0);
        Check.due("11: came", x.of(0, 0), 5);
        Check.due("11: kept", x.of(0, 1), 4);
        Check.due("11: count of 2", x.of(0, 102), 2);
        for (int sort = 1; sort <= 4; sort++) {
            x.row(1, sort, 6);
            Check.due("11: no bytes", x.keepings(0, 1, 0, 1), -12);
            Check.due("11: BAD first", x.keepings(0, 1, 0, 61), EightWorlds.BAD);
        }
        x.body(0);
        x.keep(1, 0);
        Check.due("11: no row", x.keepings(0, 1, 0, 1), -12);
        x.row(1, 0, 0);
        Check.due("11: an empty row", x.keepings(0, 1, 0, 1), 0);
        noDraws();
    }

    /** KEEPINGS from a ROW leave the WORLD's draws as they were. */
    private static void noDraws() {
        EightWorlds x = Check.withSongs(1, 1, 1, 1, 1, 1, 1);
        Check.law(x, "1");
        x.world(0, 0, 9);
        x.world(0, 0, 9);
        Check.keep(x, 0, 0, 1, 2, 3);
        x.come(0, 20);
        x.come(1, 20);
        for (int k = 0; k < 20; k++) {
            Check.due("11: by no draws", x.led(0, k + 4), x.led(1, k));
        }
    }

    private static void led() {
        EightWorlds x = Check.withSongs(1, 2, 3);
        Check.law(x, "1");
        x.world(0, 0, 5);
        Check.due("12: none", x.led(0, 0), EightWorlds.BAD);
        Check.keep(x, 0, 2, -1, 0, 1);
        x.crate(0, 0, 5);
        Check.due("12: led(0, 0)", x.led(0, 0), 2);
        Check.due("12: those who kept none are none", x.led(0, 1), 0);
        Check.due("12: led(0, 2)", x.led(0, 2), 1);
        Check.due("12: a crate is none", x.led(0, 3), EightWorlds.BAD);
        Check.due("12: led(0, -1)", x.led(0, -1), EightWorlds.BAD);
        Check.due("12: led(1, 0)", x.led(1, 0), EightWorlds.BAD);
        x.come(0, 196);
        Check.keep(x, 0, 2, 0, 1);
        Check.due("12: the 200th", x.led(0, 199), 2);
        Check.due("12: no more are kept", x.led(0, 200), EightWorlds.BAD);
        Check.due("12: of so many", x.of(0, 1), 202);
    }
}
