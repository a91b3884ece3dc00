/** Promises 13 to 19: unequal, unlike, luck, right, guess, odds, after. */
public final class UnlikeLuckGuessesTest {
    private static final int MIN = Integer.MIN_VALUE, MAX = Integer.MAX_VALUE;

    public static void main(String[] args) {
        unequal();
        unlike();
        luck();
        luckOfNone();
        right();
        guess();
        guessOfNone();
        odds();
        oddsOfWrongCalls();
        oddsSeeWhatComes();
        oddsOfFullCounts();
        after();
        afterTies();
        afterMany();
        Check.end("UnlikeLuckGuessesTest");
    }

    /** WORLDS of one LAW with these COUNTS by CRATES. */
    private static EightWorlds worlds(int[] worths, String law, int[]... counts) {
        EightWorlds x = Check.withSongs(worths);
        Check.law(x, law);
        for (int w = 0; w < counts.length; w++) {
            x.world(1, 0, w);
            Check.counts(x, w, counts[w]);
        }
        return x;
    }

    private static int[] of(int... numbers) {
        return numbers;
    }

    private static void unequal() {
        EightWorlds x = worlds(of(1, 2, 3), "w", of(1, 1, 1), of(7, 0, 0), of(1, 2, 4), of());
        // shares 333 333 333; 1000 0 0; 142 285 571
        Check.due("13: unequal(0)", x.unequal(0), 0);
        Check.due("13: unequal(1)", x.unequal(1), 666);
        Check.due("13: unequal(2)", x.unequal(2), (143 + 429 + 286) / 3);
        Check.due("13: unequal(3)", x.unequal(3), 0);
        Check.due("13: unequal(4)", x.unequal(4), EightWorlds.BAD);
        Check.due("13: unequal(-1)", x.unequal(-1), EightWorlds.BAD);
        Check.due("13: unequal(MAX)", x.unequal(MAX), EightWorlds.BAD);
        Check.due("13: without songs", worlds(of(), "w", of()).unequal(0), 0);
    }

    private static void unlike() {
        EightWorlds x = worlds(of(1, 2, 3), "w", of(1, 1, 1), of(7, 0, 0), of(1, 2, 4), of());
        Check.due("14: unlike(1)", x.unlike(1), (667 + 333 + 333) / 2);
        Check.due("14: unlike(10)", x.unlike(10), (667 + 333 + 333) / 2);
        Check.due("14: unlike(12)", x.unlike(12), (858 + 285 + 571) / 2);
        Check.due("14: no counts", x.unlike(23), (142 + 285 + 571) / 2);
        for (int vw : new int[] {0, 11, 33, 4, 40, 44, 99, 100, 123, -1, -10, -12, MIN, MAX}) {
            Check.due("14: unlike(" + vw + ")", x.unlike(vw), EightWorlds.BAD);
        }
    }

    private static void luck() {
        EightWorlds x = worlds(of(1, 2, 3), "w", of(1, 1, 1), of(7, 0, 0), of(1, 2, 4));
        Check.law(x, "c");
        x.world(11, 0, 0);
        Check.counts(x, 3, 0, 0, 9);
        // pairs 0 1, 0 2, 1 2
        int[] each = {(667 + 191 + 858) / 3, (333 + 48 + 285) / 3, (333 + 238 + 571) / 3};
        for (int s = 0; s < 3; s++) {
            Check.due("15: luck(0, " + s + ")", x.luck(0, s), each[s]);
        }
        Check.due("15: luck(0, -1)", x.luck(0, -1), (each[0] + each[1] + each[2]) / 3);
        Check.due("15: one world of it", x.luck(1, 0), EightWorlds.NOT);
        Check.due("15: one world of it", x.luck(1, -1), EightWorlds.NOT);
        Check.due("15: BAD ahead of NOT", x.luck(1, 3), EightWorlds.BAD);
        Check.due("15: luck(0, 3)", x.luck(0, 3), EightWorlds.BAD);
        Check.due("15: luck(0, -2)", x.luck(0, -2), EightWorlds.BAD);
        Check.due("15: luck(2, 0)", x.luck(2, 0), EightWorlds.BAD);
        Check.due("15: luck(-1, 0)", x.luck(-1, 0), EightWorlds.BAD);
        x.world(11, 0, 0);
        Check.due("15: two worlds of it", x.luck(1, 2), 1000);
    }

    private static void luckOfNone() {
        EightWorlds x = worlds(of(), "w", of(), of());
        Check.due("15: no songs", x.luck(0, -1), EightWorlds.NOT);
        Check.due("15: no such song", x.luck(0, 0), EightWorlds.BAD);
        EightWorlds y = worlds(of(1), "w");
        Check.due("15: no worlds", y.luck(0, 0), EightWorlds.NOT);
    }

    private static void right() {
        EightWorlds x = worlds(of(1, 2, 3, 3), "w", of(1, 2, 3, 4), of(4, 3, 2, 1), of(1, 3, 2, 2), of(5, 5, 5, 5));
        // song 2 and song 3 have one worth: five pairs
        Check.due("16: right(0)", x.right(0), 1000);
        Check.due("16: right(1)", x.right(1), 0);
        Check.due("16: right(2)", x.right(2), 3 * 1000 / 5);
        Check.due("16: like counts", x.right(3), EightWorlds.NOT);
        Check.due("16: right(4)", x.right(4), EightWorlds.BAD);
        Check.due("16: right(-1)", x.right(-1), EightWorlds.BAD);
        x.worth(3, 4);
        x.crate(3, 0, 1);
        Check.due("16: three pairs that go the other way", x.right(3), 0);
        x.crate(3, 3, 1);
        Check.due("16: cut", x.right(3), 2 * 1000 / 4);
        Check.due("16: one worth", worlds(of(2, 2), "w", of(1, 2)).right(0), EightWorlds.NOT);
        Check.due("16: no songs", worlds(of(), "w", of()).right(0), EightWorlds.NOT);
    }

    private static void guess() {
        EightWorlds x = worlds(of(1, 2, 3), "w", of(1, 2, 3), of(3, 2, 1), of(3, 2, 1), of(1, 1, 5), of(4, 4, 4));
        Check.due("17: world 0", x.guess(1, 0), 1000);
        Check.due("17: world 1", x.guess(2, 0), 0);
        Check.due("17: its bound", x.guess(2, 1), 1000);
        Check.due("17: 0 and 1", x.guess(3, 0), 500);
        Check.due("17: bound of 0 and 1", x.guess(3, 1), 500);
        Check.due("17: 0, 1 and 2", x.guess(7, 0), 333);
        Check.due("17: bound of 0, 1 and 2", x.guess(7, 1), 666);
        // 0 1: one to two; 0 2 and 1 2: two to two
        Check.due("17: all", x.guess(31, 0), 5 * 1000 / 11);
        Check.due("17: bound of all", x.guess(31, 1), 6 * 1000 / 11);
        Check.due("17: like counts", x.guess(16, 0), EightWorlds.NOT);
        Check.due("17: no worlds told", x.guess(0, 1), EightWorlds.NOT);
        Check.due("17: world 5", x.guess(32, 0), EightWorlds.BAD);
        Check.due("17: guess(-1, 0)", x.guess(-1, 0), EightWorlds.BAD);
        Check.due("17: guess(MIN, 0)", x.guess(MIN, 0), EightWorlds.BAD);
        Check.due("17: guess(MAX, 0)", x.guess(MAX, 0), EightWorlds.BAD);
        Check.due("17: guess(1, 2)", x.guess(1, 2), EightWorlds.BAD);
        Check.due("17: guess(1, -1)", x.guess(1, -1), EightWorlds.BAD);
    }

    private static void guessOfNone() {
        EightWorlds x = new EightWorlds();
        Check.due("17: no worlds", x.guess(0, 0), EightWorlds.NOT);
        Check.due("17: no world 0", x.guess(1, 0), EightWorlds.BAD);
        EightWorlds y = worlds(of(1, 2), "w", of(), of(), of(), of(), of(), of(), of(), of(), of(1, 2));
        Check.due("17: world 8", y.guess(256, 0), 1000);
        Check.due("17: nine worlds", y.guess(511, 1), 1000);
        Check.due("17: no tenth", y.guess(512, 0), EightWorlds.BAD);
    }

    private static void odds() {
        EightWorlds x = Check.withSongs(1, 2);
        Check.law(x, "w");
        x.world(0, 1, 1);
        // weights 1, 2, and 1 for none
        Check.due("18: now", x.odds(0, 0, 0, 0), 1000000);
        Check.due("18: now", x.odds(0, 1, 0, 0), 0);
        Check.due("18: one more", x.odds(0, 1, 1, 0), 500000);
        Check.due("18: one more", x.odds(0, 0, 1, 0), 500000);
        // song 1 is first: 1 1, 1 none, none 1
        Check.due("18: two more", x.odds(0, 1, 2, 0), 500000);
        Check.due("18: mean count", x.odds(0, 1, 1, 1), 500);
        Check.due("18: mean count", x.odds(0, 0, 1, 1), 250);
        Check.due("18: mean count", x.odds(0, 1, 6, 1), 3000);
        Check.due("18: nothing came of it", x.of(0, 0), 0);
        Check.due("18: nothing was kept", x.of(0, 101), 0);
        x.nothing(0, 0);
        // each step is cut: 666 of thirds
        Check.due("18: cut", x.odds(0, 1, 1, 1), 666);
        Check.due("18: cut at each step", x.odds(0, 1, 2, 1), (666 + 2 * 1666) / 3);
        Check.due("18: and first", x.odds(0, 1, 2, 0), (0 * 0 + 2 * 666666 + 1 * 0) / 3);
        x.crate(0, 1, 7);
        Check.due("18: as it is now", x.odds(0, 1, 6, 0), 1000000);
        Check.due("18: as it is now", x.odds(0, 0, 6, 0), 0);
    }

    private static void oddsOfWrongCalls() {
        EightWorlds x = worlds(of(1, 2, 3, 4), "w", of(1));
        int[][] wrong = {{1, 0, 1, 0}, {-1, 0, 1, 0}, {0, 4, 1, 0}, {0, -1, 1, 0}, {0, 0, 7, 0}, {0, 0, -1, 0},
            {0, 0, 1, 2}, {0, 0, 1, -1}, {MAX, MIN, MAX, MIN}};
        for (int[] call : wrong) {
            Check.due("18: wrong call", x.odds(call[0], call[1], call[2], call[3]), EightWorlds.BAD);
        }
        Check.due("18: four songs", x.odds(0, 0, 0, 0), 1000000);
        x.song(5);
        Check.due("18: five songs", x.odds(0, 0, 0, 0), EightWorlds.BIG);
        for (int[] call : wrong) {
            if (call[1] != 4) {
                Check.due("18: BAD ahead of BIG", x.odds(call[0], call[1], call[2], call[3]), EightWorlds.BAD);
            }
        }
    }

    /** What is seen goes on: the list turns, and who came and kept grow. */
    private static void oddsSeeWhatComes() {
        EightWorlds x = Check.withSongs(1, 1);
        Check.law(x, "p=0");
        x.world(2, 20000, 1);
        // upside down for two: song 1, then song 0, which is first then; from then on the first one
        Check.due("18: one more", x.odds(0, 1, 1, 0), 1000000);
        Check.due("18: two more", x.odds(0, 0, 2, 0), 1000000);
        Check.due("18: six more", x.odds(0, 0, 6, 1), 5000);
        Check.law(x, "t<2?0;k=0?1;i*4");
        x.world(11, 0, 1);
        Check.due("18: the first two keep none", x.odds(1, 0, 2, 1), 0);
        Check.due("18: the third one of two", x.odds(1, 0, 3, 1), 500);
        Check.due("18: then the second song", x.odds(1, 1, 6, 1), 3500);
        Check.due("18: first", x.odds(1, 1, 5, 0), 1000000);
        Check.due("18: first", x.odds(1, 1, 4, 0), 500000);
    }

    private static void oddsOfFullCounts() {
        EightWorlds x = Check.withSongs(1, 1);
        Check.law(x, "9999");
        x.world(0, 0, 1);
        for (int i = 0; i < 11; i++) {
            x.crate(0, 0, 9999);
            x.crate(0, 1, i < 10 ? 9999 : 4);
        }
        Check.due("18: a count of 99999 stays", x.odds(0, 0, 6, 1), 99999000);
        Check.due("18: another grows", x.odds(0, 1, 4, 1), 99996000);
        Check.due("18: of like ones the first", x.odds(0, 1, 6, 0), 0);
    }

    private static int settled(int... keepings) {
        EightWorlds x = worlds(of(1, 2, 3), "w", of(0, 9, 0));
        Check.keep(x, 0, keepings);
        return x.after(0);
    }

    private static void after() {
        Check.due("19: none kept", settled(), EightWorlds.NOT);
        Check.due("19: none kept", settled(-1, -1), EightWorlds.NOT);
        Check.due("19: from the beginning", settled(0), 0);
        Check.due("19: behind one", settled(1), 1);
        Check.due("19: those who keep none do not count", settled(-1, -1, 1, -1), 1);
        Check.due("19: first again", settled(1, 2, 2, 1, 0, 0, 0), 6);
        Check.due("19: lost and won", settled(2, 1, 1, 2, 2), 5);
        Check.due("19: to the first number", settled(1, 0), 2);
        Check.due("19: stays", settled(2, 2, 1, 0, 2), 1);
        EightWorlds x = worlds(of(1), "w", of(3));
        Check.due("19: crates are none", x.after(0), EightWorlds.NOT);
        Check.due("19: after(1)", x.after(1), EightWorlds.BAD);
        Check.due("19: after(-1)", x.after(-1), EightWorlds.BAD);
    }

    private static void afterTies() {
        Check.due("19: a tie goes to the first number", settled(0, 1, 0, 1), 0);
        Check.due("19: a tie is lost to it", settled(2, 1, 2), 3);
        Check.due("19: the second stands from its lead on", settled(0, 1, 1), 3);
    }

    private static void afterMany() {
        EightWorlds x = Check.withSongs(1, 1);
        Check.law(x, "i");
        x.world(0, 0, 1);
        x.come(0, 200);
        Check.due("19: 200", x.after(0), 1);
        x.come(0, 1);
        Check.due("19: 201", x.after(0), EightWorlds.STATE);
    }
}
