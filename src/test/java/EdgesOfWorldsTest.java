/**
 * Terms 1 and promises 1 to 12 at their edges: what is empty, the last that is taken, what is full, what wraps.
 * A label quotes the sentence that names the edge; what is refused stands in RefusalsTest.
 */
public final class EdgesOfWorldsTest {
    private static final int MIN = Integer.MIN_VALUE, MAX = Integer.MAX_VALUE;
    private static final int BAD = EightWorlds.BAD, NOT = EightWorlds.NOT, FULL = EightWorlds.FULL;

    public static void main(String[] args) {
        constants();
        newObjectHasNoWorlds();
        newObjectHasNothingElse();
        objectsShareNothing();
        allCalls();
        songsAndWorths();
        laterSongs();
        tapeIsFilled();
        bytesOfTheTape();
        lawsAreFilled();
        worldsAreFilled();
        newWorlds();
        worldsShareSongsAlone();
        theList();
        theListOfOneAndOfTwelve();
        until();
        untilOfOtherShows();
        parts();
        theGreatestParts();
        sumOfNone();
        draws();
        come();
        countStays();
        keepingsFromARow();
        keepingsToTheLastSong();
        keepingsWhereNoRowIs();
        keepingsDrawNothing();
        led();
        Check.end("EdgesOfWorldsTest");
    }

    private static void constants() {
        int[] all = {EightWorlds.BAD, EightWorlds.NOT, EightWorlds.FULL, EightWorlds.BIG, EightWorlds.STATE};
        for (int i = 0; i < all.length; i++) {
            Check.due("BAD (-1), NOT (-2), FULL (-3), BIG (-4), STATE (-5)", all[i], -1 - i);
        }
        Check.due("VOID is -2000000000", EightWorlds.VOID, -2000000000);
    }

    private static void newObjectHasNoWorlds() {
        EightWorlds x = new EightWorlds();
        long[] answers = {x.of(0, 0), x.weight(0, 0), x.come(0, 1), x.keepings(0, 0, 0, 1), x.led(0, 0), x.unequal(0),
            x.unlike(1), x.luck(0, -1), x.right(0), x.odds(0, 0, 0, 0), x.after(0), x.shop(0, 0), x.chart(0, 0),
            x.crate(0, 0, 1), x.found(0, 0), x.said(0, -1), x.line(1), x.against(1, 0, 1), x.worth(0, 0),
            x.world(0, 0, 0), x.nothing(0, 0)};
        for (int i = 0; i < answers.length; i++) {
            Check.due("1: No songs, no worlds, call " + i, answers[i], BAD);
        }
        Check.due("1: No worlds, house", x.house(0, 0, 1, 0), EightWorlds.VOID);
        Check.due("1: No laws, strong", x.strong(1, 1, 0), EightWorlds.VOID);
        Check.due("1: No worlds, guess", x.guess(0, 0), NOT);
        Check.due("1: No worlds, guess", x.guess(0, 1), NOT);
        for (int what = 0; what <= 6; what++) {
            Check.due("1: count(" + what + ")", x.count(what), 0);
        }
    }

    private static void newObjectHasNothingElse() {
        EightWorlds x = new EightWorlds();
        Check.due("1: nothing to be undone", x.undo(), EightWorlds.STATE);
        Check.due("1: nothing to be done again", x.redo(), EightWorlds.STATE);
        Check.due("1: no KEEPING", x.act(0, 0, 1), 0);
        Check.due("1: no TRACE", x.trace(0), BAD);
        Check.due("1: no KEEPING", x.keep(0, 0), BAD);
        for (int s = 0; s < 6; s++) {
            Check.due("SHELVES hold nothing at first", x.taken(s, 0), -11);
            Check.due("SHELVES hold nothing at first", x.put(s, 0, 1), -11);
            Check.due("SHELVES hold nothing at first", x.element(s, 0), Long.MIN_VALUE);
            Check.due("SHELVES hold nothing at first", x.shift(s, 0, s, 0, 0), -11);
        }
        Check.due("1: an empty TAPE", x.law(), -100);
        Check.due("1: it is the first SONG", x.song(0), 0);
        Check.due("1: it is the first KEEPING", x.body(0), 0);
    }

    /** An object with something of all, and one that is used beside it. */
    private static EightWorlds some(EightWorlds beside) {
        EightWorlds x = new EightWorlds();
        for (EightWorlds one : new EightWorlds[] {x, beside}) {
            one.song(300);
            one.song(200);
            Check.law(one, "w+c*9");
            one.world(1, 10, 5);
            one.come(0, 20);
            one.crate(0, 1, 7);
            one.worth(0, 8);
            one.undo();
            one.feed(2, 'w' | '-' << 8);
            one.body(6);
            one.act(0, 3, 5);
            one.row(0, 0, 3);
            one.put(0, 1, 9);
            one.keep(1, 0);
        }
        return x;
    }

    private static void objectsShareNothing() {
        EightWorlds beside = new EightWorlds(), other = new EightWorlds();
        EightWorlds x = some(beside), y = some(other);
        Check.holds("All memory is the class's own", Answers.of(x).equals(Answers.of(y)));
        Check.holds("though one beside it goes on", Answers.of(beside).equals(Answers.of(other)));
        Check.due("1: a new object, behind all these", new EightWorlds().count(0), 0);
        Check.due("1: a new object, behind all these", new EightWorlds().law(), -100);
    }

    /** At most 512 calls: the last of them answers as the first. */
    private static void allCalls() {
        EightWorlds x = new EightWorlds();
        x.song(10);
        x.song(20);
        x.feed(1, 'w');
        x.law();
        x.world(1, 0, 7);
        int z = 7, counted = 0;
        for (int call = 6; call < 512; call++) {
            z = z * 1103515245 + 12345;
            counted += (z >>> 8) % 30 >= 10 ? 1 : 0;
            Check.due("call " + call, x.come(0, 1), 1);
        }
        Check.due("at most 512 calls, the last of them", x.of(0, 101), counted);
    }

    private static void songsAndWorths() {
        EightWorlds x = new EightWorlds();
        for (int s = 0; s < 12; s++) {
            Check.due("SONGS 0 .. 11, as they come", x.song(s % 2 == 0 ? 999 : 0), s);
        }
        Check.due("2: FULL", x.song(5), FULL);
        for (int s = 0; s < 12; s++) {
            Check.due("a WORTH (0 .. 999)", x.worth(s, s % 2 == 0 ? 0 : 999), s % 2 == 0 ? 999 : 0);
            Check.due("3: what it was", x.worth(s, s), s % 2 == 0 ? 0 : 999);
        }
        Check.due("2: twelve", x.count(0), 12);
    }

    private static void laterSongs() {
        EightWorlds x = new EightWorlds();
        Check.law(x, "n*100+w");
        x.world(2, 9990000, 1);
        x.world(1, 0, 2);
        Check.due("ahead of all SONGS", x.come(1, 3), 0);
        for (int s = 0; s < 12; s++) {
            x.song(s);
            for (int w = 0; w < 2; w++) {
                Check.due("SONGS that come later are in all WORLDS", x.of(w, 100 + s), 0);
                Check.due("the last of THE LIST", x.of(w, 200 + s), s);
                Check.due("how many SONGS", x.weight(w, s), (s + 1) * 100 + s);
            }
            Check.due("the first upside down", x.of(0, 300 + s), 0);
            Check.due("the other way round", x.of(0, 300), s);
        }
        Check.due("and are kept", x.come(1, 200), 200);
        Check.keep(x, 0, 11);
        Check.due("the last of them too", x.of(0, 111), 1);
    }

    private static void tapeIsFilled() {
        for (int n = 1; n <= 4; n++) {
            for (int had = 115; had <= 120; had++) {
                EightWorlds x = new EightWorlds();
                Check.type(x, "w".repeat(had));
                boolean fits = had + n <= 120;
                Check.due("THE TAPE (at most 120 bytes) of " + had, x.feed(n, 0x77777777), fits ? had + n : FULL);
                Check.due("4: FULL changes nothing", x.count(3), fits ? had + n : had);
                if (!fits && had < 120) {
                    Check.due("4: fewer fit yet", x.feed(120 - had, 0x77777777), 120);
                }
                Check.due("4: FULL", x.count(3) == 120 ? x.feed(1, 'w') : FULL, FULL);
            }
        }
        EightWorlds x = new EightWorlds();
        Check.due("5: all 120 are read", Check.law(x, "w+".repeat(59) + "99"), 0);
        Check.due("5: and it may be filled again", Check.law(x, "w+".repeat(60)), -100 - 120);
        Check.due("5: to the last byte", Check.law(x, "w+".repeat(59) + "w "), -100 - 119);
        Check.due("5: to the last byte", Check.law(x, "0?1;".repeat(29) + "0;77"), 1);
        Check.due("5: where each byte tells something", Check.law(x, "0?w;".repeat(29) + "w*!c"), 2);
        x.song(2);
        x.world(1, 0, 0);
        x.world(11, 0, 0);
        x.world(21, 0, 0);
        Check.due("9: of all 120", x.weight(0, 0), 59 * 2 + 99);
        Check.due("9: the last LINE, to its last byte", x.weight(2, 0), 2);
        Check.due("9: the first that counts", x.weight(1, 0), 0);
    }

    private static void bytesOfTheTape() {
        EightWorlds x = Check.withSongs(50);
        Check.due("the lowest of v first", x.feed(4, '1' | '+' << 8 | '2' << 16 | '*' << 24), 4);
        Check.due("4: one byte of a v below 0", x.feed(1, -256 | '3'), 5);
        Check.due("5: 1+2*3", x.law(), 0);
        Check.due("4: two of four", x.feed(2, '4' | '5' << 8 | 200 << 16 | 200 << 24), 2);
        Check.due("4: three of four", x.feed(3, '-' | '4' << 8 | '0' << 16 | 200 << 24), 5);
        Check.due("5: 45-40", x.law(), 1);
        x.world(1, 0, 0);
        x.world(11, 0, 0);
        Check.due("9: 1+2*3", x.weight(0, 0), 7);
        Check.due("9: 45-40", x.weight(1, 0), 5);
        Check.due("4: the highest byte of a v below 0", x.feed(4, 'w' | 'w' << 8 | 'w' << 16 | 255 << 24), 4);
        Check.due("4: MIN", x.feed(4, MIN), 8);
        Check.due("5: FAULT", x.law(), -101);
    }

    private static void lawsAreFilled() {
        EightWorlds x = new EightWorlds();
        Check.due("LINES, one or more", x.law(), -100);
        for (int law = 0; law < 6; law++) {
            Check.due("5: -100 less its FAULT", Check.law(x, "w)"), -101);
            Check.due("THE TAPE is empty then", x.count(3), 0);
            Check.due("5: as it was", x.count(1), law);
            Check.due("LAWS 0 .. 5", Check.law(x, "" + law), law);
            Check.due("THE TAPE is empty then", x.count(3), 0);
        }
        Check.type(x, "w");
        Check.due("5: FULL", x.law(), FULL);
        Check.due("it stays", x.count(3), 1);
        Check.due("4: and goes on", x.feed(1, 'w'), 2);
        Check.due("5: six", x.count(1), 6);
        x.song(9);
        Check.due("6: the last LAW", x.world(51, 0, 0), 0);
        Check.due("9: by it", x.weight(0, 0), 5);
        Check.due("8: 2 LAW, the last", x.of(0, 2), 5);
        Check.due("6: the first LAW", x.world(0, 0, 0), 1);
        Check.due("8: 2 LAW, the first", x.of(1, 2), 0);
    }

    private static void worldsAreFilled() {
        EightWorlds x = Check.withSongs(9);
        Check.law(x, "w");
        int[] seeds = {0, 1, -1, MIN, MAX, MIN + 1, MAX - 1, 256, -256};
        int[] uns = {0, 9999, 10000, 19999, 9990000, 9999999, 1, 500050, 9989999};
        for (int w = 0; w < 9; w++) {
            Check.due("WORLDS 0 .. 8, as they come", x.world(w % 3, uns[w], seeds[w]), w);
        }
        Check.due("6: FULL", x.world(0, 0, 0), FULL);
        for (int w = 0; w < 9; w++) {
            Check.due("6: 10 times the LAW, and SHOW", x.of(w, 3), w % 3);
            Check.due("6: 10000 UNTIL and NOTHING", x.nothing(w, 9999), uns[w] % 10000);
            Check.due("7: the most", x.nothing(w, 0), 9999);
            Check.due("7: the least", x.nothing(w, 0), 0);
        }
        Check.due("6: nine", x.count(2), 9);
    }

    private static void newWorlds() {
        EightWorlds x = Check.withSongs(9, 8);
        Check.law(x, "w");
        for (int w = 0; w < 9; w++) {
            x.world(1, 0, w);
            for (int what : new int[] {0, 1, 100, 101, 400, 401}) {
                Check.due("a COUNT (0 at first), CAME, KEPT", x.of(w, what), 0);
            }
            Check.due("FIRST of like ones", x.of(w, 4), 0);
            Check.due("12: none", x.led(w, 0), BAD);
            Check.due("20: 0 at first", x.shop(w, 0), 0);
            x.come(w, 30);
        }
        EightWorlds y = new EightWorlds();
        Check.law(y, "w");
        y.world(1, 0, 0);
        Check.due("8: NOT, no SONGS", y.of(0, 4), NOT);
        for (int what : new int[] {100, 200, 300, 400}) {
            Check.due("8: BAD, no SONGS", y.of(0, what), BAD);
        }
    }

    private static void worldsShareSongsAlone() {
        EightWorlds x = Check.withSongs(1, 2, 3);
        Check.law(x, "w+c");
        for (int w = 0; w < 3; w++) {
            x.world(1, 2, 77);
        }
        x.come(0, 30);
        x.crate(2, 1, 5);
        x.shop(2, 9);
        x.nothing(2, 0);
        x.undo();
        x.undo();
        for (int k = 0; k < 30; k++) {
            x.come(1, 1);
        }
        Check.due("as if each were alone", x.of(1, 1), x.of(0, 1));
        for (int k = 0; k < x.of(0, 1); k++) {
            Check.due("as if each were alone", x.led(1, k), x.led(0, k));
        }
        Check.due("none came here", x.of(2, 0), 0);
        x.worth(2, 900);
        for (int w = 0; w < 3; w++) {
            Check.due("worlds that share songs", x.weight(w, 2), 900 + x.of(w, 102));
        }
    }

    /** Places of SONGS in order and as they are seen, a digit each. */
    private static void places(EightWorlds x, int world, String inOrder, String seen) {
        for (int s = 0; s < inOrder.length(); s++) {
            Check.due("PLACE in order, SONG " + s, x.of(world, 200 + s), inOrder.charAt(s) - '0');
            Check.due("PLACE as it is seen, SONG " + s, x.of(world, 300 + s), seen.charAt(s) - '0');
        }
        Check.due("FIRST", x.of(world, 4), inOrder.indexOf('0'));
    }

    private static void theList() {
        EightWorlds x = Check.withSongs(1, 2, 3, 4, 5);
        Check.law(x, "w");
        x.world(0, 9990000, 1);
        x.world(1, 9990000, 1);
        x.world(2, 9990000, 1);
        String[] seen = {"00000", "01234", "43210"};
        for (int w = 0; w < 3; w++) {
            places(x, w, "01234", seen[w]);
        }
        for (int w = 0; w < 3; w++) {
            Check.counts(x, w, 2, 0, 7, 2, 7);
        }
        // of like ones by numbers: 2 4 0 3 1, and the other way round
        String[] then = {"00000", "24031", "20413"};
        for (int w = 0; w < 3; w++) {
            places(x, w, "24031", then[w]);
        }
        x.crate(1, 1, 7);
        places(x, 1, "30142", "30142");
    }

    private static void theListOfOneAndOfTwelve() {
        EightWorlds x = Check.withSongs(1);
        Check.law(x, "w");
        x.world(2, 9990000, 1);
        places(x, 0, "0", "0");
        x.crate(0, 0, 5);
        places(x, 0, "0", "0");
        for (int s = 1; s < 12; s++) {
            x.song(s);
        }
        x.crate(0, 11, 6);
        Check.due("PLACE of the last SONG", x.of(0, 211), 0);
        Check.due("its PLACE upside down", x.of(0, 311), 11);
        Check.due("PLACE behind all", x.of(0, 210), 11);
        Check.due("its PLACE upside down", x.of(0, 310), 0);
        Check.due("FIRST", x.of(0, 4), 11);
    }

    private static void upsideDown(EightWorlds x, int world, boolean so) {
        Check.due("upside down till so many came, WORLD " + world, x.of(world, 300), so ? 1 : 0);
        Check.due("upside down till so many came, WORLD " + world, x.of(world, 301), so ? 0 : 1);
        Check.due("9: PLACE as it is seen", x.weight(world, 1), so ? 10 : 11);
    }

    private static void until() {
        EightWorlds x = Check.withSongs(1, 1);
        Check.law(x, "p+10");
        x.world(2, 0, 1);
        x.world(2, 10000, 1);
        x.world(2, 20000, 1);
        x.world(2, 9990000, 1);
        boolean[] at0 = {false, true, true, true}, at1 = {false, false, true, true}, at2 = {false, false, false, true};
        for (int w = 0; w < 4; w++) {
            upsideDown(x, w, at0[w]);
            // who keeps none came too
            Check.keep(x, w, -1);
            upsideDown(x, w, at1[w]);
            Check.keep(x, w, -1);
            upsideDown(x, w, at2[w]);
        }
        x.row(0, 0, 60);
        for (int i = 0; i < 60; i++) {
            x.put(0, i, -1);
        }
        for (int i = 0; i < 16; i++) {
            x.keepings(3, 0, 0, 60);
        }
        x.keepings(3, 0, 0, 36);
        Check.due("CAME", x.of(3, 0), 998);
        upsideDown(x, 3, true);
        x.keepings(3, 0, 0, 1);
        upsideDown(x, 3, false);
        x.keepings(3, 0, 0, 1);
        upsideDown(x, 3, false);
    }

    private static void untilOfOtherShows() {
        EightWorlds x = Check.withSongs(1, 1);
        Check.law(x, "p*100+c*10+t+k");
        x.world(0, 20000, 1);
        x.world(1, 20000, 1);
        for (int came = 0; came < 4; came++) {
            Check.due("not shown: PLACE 0, COUNT 0 for all", x.weight(0, 1), 2 * came);
            Check.due("not shown: PLACE 0, COUNT 0 for all", x.weight(0, 0), 2 * came);
            Check.due("UNTIL does not matter but for SHOW 2", x.weight(1, 1), 100 + 2 * came);
            Check.due("UNTIL does not matter but for SHOW 2", x.weight(1, 0), 12 * came);
            Check.keep(x, 0, 0);
            Check.keep(x, 1, 0);
        }
    }

    /** A SEED whose first draw by this sum is so much. */
    private static int seedOf(int sum, int drawn) {
        int seed = 0;
        while (((seed * 1103515245 + 12345) >>> 8) % sum != drawn) {
            seed = seed < 0 ? -seed : -seed - 1;
        }
        return seed;
    }

    /** Whom the first who comes keeps (-1: none), when this much of the sum is drawn. */
    private static int keptOf(int[] worths, String law, int nothing, int sum, int drawn) {
        EightWorlds x = Check.withSongs(worths);
        Check.law(x, law);
        x.world(1, nothing, seedOf(sum, drawn));
        int kept = x.come(0, 1);
        Check.due("CAME is one more", x.of(0, 0), 1);
        Check.due("KEPT too, if it is a SONG", x.of(0, 1), kept);
        return kept == 0 ? -1 : x.led(0, 0);
    }

    private static void parts() {
        int[] worths = {3, 0, 5, 0}, due = {0, 0, 0, 2, 2, 2, 2, 2, -1, -1};
        for (int drawn = 0; drawn < 10; drawn++) {
            Check.due("the one in whose part it falls, " + drawn, keptOf(worths, "w", 2, 10, drawn), due[drawn]);
            Check.due("by numbers, not by places", keptOf(worths, "w+p-i", 2, 10, drawn), due[drawn]);
        }
        for (int drawn = 0; drawn < 8; drawn++) {
            Check.due("without NOTHING, " + drawn, keptOf(worths, "w", 0, 8, drawn), due[drawn]);
        }
        int[] last = {0, 0, 0, 4};
        Check.due("the first of the last one's part", keptOf(last, "w", 1, 5, 0), 3);
        Check.due("the last of the last one's part", keptOf(last, "w", 1, 5, 3), 3);
        Check.due("then none", keptOf(last, "w", 1, 5, 4), -1);
        Check.due("a sum of 1", keptOf(new int[] {0, 1}, "w", 0, 1, 0), 1);
        Check.due("a sum of 1 for none", keptOf(new int[] {0, 0}, "w", 1, 1, 0), -1);
        Check.due("a WEIGHT below 0 has no part", keptOf(new int[] {9, 1}, "w-5+i*8", 0, 8, 3), 0);
        Check.due("a WEIGHT below 0 has no part", keptOf(new int[] {1, 9}, "w-5", 0, 4, 0), 1);
    }

    private static void theGreatestParts() {
        int[] worths = {999, 1, 0, 7, 999, 999, 4, 5, 6, 7, 8, 9};
        int sum = 13 * 9999;
        int[][] due = {{0, 0}, {9998, 0}, {9999, 1}, {11 * 9999 - 1, 10}, {11 * 9999, 11}, {12 * 9999 - 1, 11},
            {12 * 9999, -1}, {sum - 1, -1}};
        for (int[] one : due) {
            Check.due("held within 0 .. 9999, all told", keptOf(worths, "9999+w", 9999, sum, one[0]), one[1]);
        }
    }

    private static void sumOfNone() {
        EightWorlds x = Check.withSongs(5, 6);
        Check.law(x, "0-w");
        x.world(1, 0, 3);
        x.world(1, 0, 3);
        Check.due("sum 0: none", x.come(0, 200), 0);
        Check.due("they came", x.of(0, 0), 200);
        Check.due("none KEPT", x.of(0, 1), 0);
        x.nothing(1, 9999);
        Check.due("NOTHING alone", x.come(1, 200), 0);
        Check.due("they came", x.of(1, 0), 200);
        drawnInAnyCase();
    }

    /** One WORLD keeps none for twenty who come, the other keeps, and both draw alike from then on. */
    private static void drawnInAnyCase() {
        EightWorlds x = Check.withSongs(1, 1, 1, 1, 1);
        Check.law(x, "t<20?0;1");
        Check.law(x, "1");
        x.world(0, 0, 5);
        x.world(10, 0, 5);
        Check.due("sum 0: none", x.come(0, 20), 0);
        Check.due("a sum of 5", x.come(1, 20), 20);
        for (int k = 0; k < 20; k++) {
            Check.due("they keep one now", x.come(0, 1) + x.come(1, 1), 2);
            Check.due("drawn in any case", x.led(0, k), x.led(1, 20 + k));
        }
    }

    /** Who come by a ROW draw nothing. */
    private static void keepingsDrawNothing() {
        EightWorlds x = Check.withSongs(1, 1, 1, 1, 1);
        Check.law(x, "1");
        x.world(0, 0, 5);
        x.world(0, 0, 5);
        Check.keep(x, 0, 4, -1, 3, 2);
        x.come(0, 20);
        x.come(1, 20);
        for (int k = 0; k < 20; k++) {
            Check.due("(by no draws)", x.led(0, 3 + k), x.led(1, k));
        }
    }

    /** z as it goes on from a SEED; WEIGHTS 1, 1, 1 and 1 for none. */
    private static void draws() {
        for (int seed : new int[] {0, 1, -1, MIN, MAX, 255, 256, -12345, 1103515245}) {
            EightWorlds x = Check.withSongs(1, 1, 1);
            Check.law(x, "w");
            x.world(0, 1, seed);
            int z = seed, kept = 0;
            for (int i = 0; i < 60; i++) {
                z = z * 1103515245 + 12345;
                int drawn = (z >>> 8) % 4;
                Check.due("z is an int that wraps, SEED " + seed, x.come(0, 1), drawn < 3 ? 1 : 0);
                if (drawn < 3) {
                    Check.due("(z >>> 8), SEED " + seed, x.led(0, kept), drawn);
                    kept++;
                }
            }
        }
    }

    private static void come() {
        EightWorlds x = Check.withSongs(5);
        Check.law(x, "1");
        x.world(1, 0, 3);
        Check.due("10: n of 1", x.come(0, 1), 1);
        Check.due("10: n of 200", x.come(0, 200), 200);
        Check.due("10: all of them", x.of(0, 0), 201);
        Check.due("10: all of them", x.of(0, 100), 201);
        Check.due("10: how many KEPT one, of these alone", x.come(0, 2), 2);
    }

    private static void countStays() {
        EightWorlds x = Check.withSongs(5, 5);
        Check.law(x, "i=0");
        x.world(1, 0, 3);
        for (int i = 0; i < 10; i++) {
            x.crate(0, 0, 9999);
        }
        x.crate(0, 0, 8);
        Check.due("10: one below", x.come(0, 1), 1);
        Check.due("10: to the most", x.of(0, 100), 99999);
        Check.due("10: KEPT all the same", x.come(0, 1), 1);
        Check.due("a COUNT of 99999 stays", x.of(0, 100), 99999);
        Check.keep(x, 0, 0, 1, 0);
        Check.due("a COUNT of 99999 stays, by a ROW", x.of(0, 100), 99999);
        Check.due("another one goes on", x.of(0, 101), 1);
        Check.due("KEPT is one more", x.of(0, 1), 5);
        Check.due("CAME is one more", x.of(0, 0), 5);
        int[] led = {0, 0, 0, 1, 0};
        for (int k = 0; k < 5; k++) {
            Check.due("12: it is a KEEPING", x.led(0, k), led[k]);
        }
    }

    private static EightWorlds withRow(int... songs) {
        EightWorlds x = Check.withSongs(1, 2, 3);
        Check.law(x, "1");
        x.world(0, 0, 5);
        x.row(0, 0, songs.length);
        for (int i = 0; i < songs.length; i++) {
            x.put(0, i, songs[i]);
        }
        return x;
    }

    private static void keepingsFromARow() {
        EightWorlds x = withRow(2, -1, 0);
        Check.due("11: n of 1", x.keepings(0, 0, 2, 1), 1);
        Check.due("11: as many as there are", x.keepings(0, 0, 0, 3), 3);
        Check.due("it ends where the row ends", x.keepings(0, 0, 0, 4), 3);
        Check.due("it ends where the row ends", x.keepings(0, 0, 2, 60), 1);
        Check.due("from its end on", x.keepings(0, 0, 3, 60), 0);
        Check.due("from behind its end on", x.keepings(0, 0, MAX, 60), 0);
        Check.due("from ahead of it on", x.keepings(0, 0, -1, 60), 0);
        Check.due("from far ahead of it on", x.keepings(0, 0, MIN, 60), 0);
        Check.due("CAME", x.of(0, 0), 8);
        Check.due("-1: none", x.of(0, 1), 6);
        int[] wrong = {3, 12, 127, -2, -128, 11};
        for (int song : wrong) {
            EightWorlds y = withRow(1, song, 2);
            Check.due("ends where one is no SONG: " + song, y.keepings(0, 0, 0, 3), 1);
            Check.due("those ahead came", y.of(0, 0), 1);
            Check.due("those ahead came", y.of(0, 101), 1);
            Check.due("none at all", y.keepings(0, 0, 1, 2), 0);
            Check.due("the one behind", y.keepings(0, 0, 2, 2), 1);
        }
        Check.due("a row of no elements", withRow().keepings(0, 0, 0, 1), 0);
    }

    private static void keepingsToTheLastSong() {
        EightWorlds x = Check.withSongs(1, 2, 3, 4, 5, 6, 7, 8, 9, 10, 11);
        Check.law(x, "1");
        x.world(0, 0, 5);
        x.row(0, 0, 60);
        for (int i = 0; i < 60; i++) {
            x.put(0, i, i < 59 ? 10 : 11);
        }
        Check.due("11: of 60 to one that is no SONG", x.keepings(0, 0, 0, 60), 59);
        x.song(12);
        Check.due("11: it is a SONG now", x.keepings(0, 0, 0, 60), 60);
        Check.due("11: from the last place on", x.keepings(0, 0, 59, 60), 1);
        Check.due("11: the last SONG", x.of(0, 111), 2);
        Check.due("11: the one ahead of it", x.of(0, 110), 118);
        x.put(0, 59, 256 + 11);
        Check.due("11: the lowest bits of what was put in", x.keepings(0, 0, 59, 1), 1);
        x.put(0, 59, 12);
        Check.due("11: no thirteenth", x.keepings(0, 0, 59, 1), 0);
    }

    private static void keepingsWhereNoRowIs() {
        EightWorlds x = withRow(0, 1, 2);
        x.body(0);
        x.keep(0, 0);
        Check.due("-12 (no ROW of bytes), where one was", x.keepings(0, 0, 0, 1), -12);
        x.keep(1, 0);
        Check.due("-12, where nothing was", x.keepings(0, 1, 0, 1), -12);
        x.keep(0, -1);
        Check.due("a SHELF that holds nothing is missing, where a row was", x.keepings(0, 0, 0, 1), 0);
        for (int sort = 1; sort <= 4; sort++) {
            x.row(0, sort, 0);
            Check.due("-12, no elements of sort " + sort, x.keepings(0, 0, 0, 1), -12);
        }
        x.row(0, 0, 1);
        Check.due("11: 0 at first", x.keepings(0, 0, 0, 60), 1);
        Check.due("11: SONG 0", x.led(0, 0), 0);
        Check.due("11: one came", x.of(0, 0), 1);
    }

    private static void led() {
        EightWorlds x = Check.withSongs(5, 5);
        Check.law(x, "k<199?i=0;k=199?i=1;i=0");
        x.world(0, 0, 3);
        x.come(0, 199);
        Check.due("12: the last yet", x.led(0, 198), 0);
        Check.due("12: the next one", x.led(0, 199), BAD);
        x.come(0, 1);
        Check.due("up to 200 are kept in order", x.led(0, 199), 1);
        x.come(0, 50);
        Check.due("up to 200 are kept in order", x.led(0, 199), 1);
        Check.due("no more", x.led(0, 200), BAD);
        Check.due("the first", x.led(0, 0), 0);
        Check.due("12: k of -1", x.led(0, -1), BAD);
    }
}
