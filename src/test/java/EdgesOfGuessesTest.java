/**
 * Terms 2 and promises 13 to 19 at their edges: no COUNTS, no pairs, one SONG and twelve, two WORLDS and nine,
 * what is cut, none more and six more, no KEEPINGS and two hundred.
 */
public final class EdgesOfGuessesTest {
    private static final int NOT = EightWorlds.NOT, BIG = EightWorlds.BIG, STATE = EightWorlds.STATE;

    public static void main(String[] args) {
        shares();
        unequal();
        unequalOfFew();
        unlike();
        unlikeOfNine();
        luck();
        luckOfNineAndOfTwelve();
        luckByOneLaw();
        right();
        rightOfNone();
        guess();
        guessOfNine();
        oddsOfNoneMore();
        oddsOfAllThatMayCome();
        oddsOfNoWeights();
        oddsTurnAtUntil();
        oddsAtTheMost();
        oddsOfFourAndOfFive();
        after();
        afterTwoHundred();
        afterAlone();
        Check.end("EdgesOfGuessesTest");
    }

    /** SONGS of these WORTHS, and a WORLD for each row of COUNTS. */
    private static EightWorlds worlds(int[] worths, int[]... counts) {
        EightWorlds x = Check.withSongs(worths);
        Check.law(x, "w");
        for (int w = 0; w < counts.length; w++) {
            x.world(1, 0, w);
            Check.counts(x, w, counts[w]);
        }
        return x;
    }

    private static int[] of(int... numbers) {
        return numbers;
    }

    /** Twelve like numbers. */
    private static int[] twelve(int number) {
        int[] all = new int[12];
        java.util.Arrays.fill(all, number);
        return all;
    }

    private static void shares() {
        EightWorlds x = worlds(of(1, 2, 3), of(), of(1, 2, 0), of(0, 0, 5), of(999, 1, 0), of(1, 1000, 0), of(1, 998, 0));
        int[][] due = {{0, 0, 0}, {333, 666, 0}, {0, 0, 1000}, {999, 1, 0}, {0, 999, 0}, {1, 998, 0}};
        for (int w = 0; w < 6; w++) {
            for (int s = 0; s < 3; s++) {
                Check.due("SHARE (cut; 0 if that is 0), WORLD " + w + ", SONG " + s, x.of(w, 400 + s), due[w][s]);
            }
        }
        EightWorlds y = worlds(twelve(1), of());
        for (int i = 0; i < 12 * 11; i++) {
            y.crate(0, i % 12, 9999);
        }
        for (int s = 0; s < 12; s++) {
            Check.due("SHARE of the greatest COUNTS", y.of(0, 400 + s), 83);
        }
        EightWorlds z = worlds(of(1), of());
        for (int i = 0; i < 11; i++) {
            z.crate(0, 0, 9999);
        }
        Check.due("SHARE of the one SONG", z.of(0, 400), 1000);
    }

    private static void unequal() {
        EightWorlds x = worlds(of(1, 2, 3), of(), of(5, 5, 5), of(0, 9, 0), of(1, 2, 0), of(1, 1, 2));
        Check.due("13: no COUNTS", x.unequal(0), 0);
        Check.due("13: like ones", x.unequal(1), 0);
        Check.due("pairs of SONGS (each once)", x.unequal(2), 2000 / 3);
        Check.due("by how many SONGS, cut", x.unequal(3), (333 + 333 + 666) / 3);
        Check.due("by how many SONGS, cut", x.unequal(4), (0 + 250 + 250) / 3);
    }

    private static void unequalOfFew() {
        Check.due("UNEQUAL (0 without)", worlds(of(), of()).unequal(0), 0);
        Check.due("13: one SONG", worlds(of(1), of(7)).unequal(0), 0);
        Check.due("13: two SONGS", worlds(of(1, 2), of(7, 0)).unequal(0), 500);
        Check.due("13: two SONGS, cut", worlds(of(1, 2), of(1, 2)).unequal(0), 333 / 2);
        Check.due("13: twelve, the last alone", worlds(twelve(1), of(0, 0, 0, 0, 0, 0, 0, 0, 0, 0, 0, 4)).unequal(0),
            11000 / 12);
        Check.due("13: twelve, the first alone", worlds(twelve(1), of(4)).unequal(0), 11000 / 12);
    }

    private static void unlike() {
        EightWorlds x = worlds(of(1, 2), of(), of(), of(3, 0), of(0, 9), of(1, 2), of(2, 4));
        Check.due("14: no COUNTS in both", x.unlike(1), 0);
        Check.due("14: no COUNTS in one", x.unlike(2), 500);
        Check.due("14: no COUNTS in the other", x.unlike(20), 500);
        Check.due("14: wholly unlike", x.unlike(23), 1000);
        Check.due("half the sum, cut", x.unlike(4), (333 + 666) / 2);
        Check.due("half the sum, cut", x.unlike(42), (667 + 666) / 2);
        Check.due("14: like SHARES of unlike COUNTS", x.unlike(45), 0);
        EightWorlds y = worlds(twelve(1), of(1), of(0, 0, 0, 0, 0, 0, 0, 0, 0, 0, 0, 1));
        Check.due("14: twelve, the first and the last", y.unlike(1), 1000);
        Check.due("14: no SONGS", worlds(of(), of(), of()).unlike(10), 0);
    }

    /** Nine WORLDS: SONG 0 has shares 100, 200 .. 900, SONG 1 the others. */
    private static EightWorlds nine() {
        EightWorlds x = Check.withSongs(1, 2);
        Check.law(x, "w");
        for (int w = 0; w < 9; w++) {
            x.world(w % 3, 0, w);
            Check.counts(x, w, w + 1, 9 - w);
        }
        return x;
    }

    private static void unlikeOfNine() {
        EightWorlds x = nine();
        for (int v = 0; v < 9; v++) {
            for (int w = 0; w < 9; w++) {
                int due = v == w ? EightWorlds.BAD : 100 * Math.abs(v - w);
                Check.due("14: 10 times the one and the other, " + v + " " + w, x.unlike(10 * v + w), due);
            }
        }
    }

    private static void luck() {
        EightWorlds x = worlds(of(1, 2, 3), of(1, 0, 0));
        Check.due("NOT: fewer than two WORLDS of it", x.luck(0, 0), NOT);
        Check.due("NOT: fewer than two WORLDS of it", x.luck(0, -1), NOT);
        x.world(1, 0, 0);
        Check.due("15: two of them", x.luck(0, 0), 1000);
        Check.counts(x, 1, 1, 2, 3);
        int[] due = {1000 - 166, 333, 500};
        for (int s = 0; s < 3; s++) {
            Check.due("15: two of them", x.luck(0, s), due[s]);
        }
        // 1667 by 3
        Check.due("of all SONGS: the mean (cut)", x.luck(0, -1), 555);
        x.world(1, 0, 0);
        Check.due("over all pairs: the mean (cut)", x.luck(0, 0), (834 + 1000 + 166) / 3);
        Check.due("over all pairs: the mean (cut)", x.luck(0, 1), (333 + 0 + 333) / 3);
        Check.due("over all pairs: the mean (cut)", x.luck(0, 2), (500 + 0 + 500) / 3);
        Check.due("the mean (cut) of these", x.luck(0, -1), (666 + 222 + 333) / 3);
        Check.due("15: no SONGS", worlds(of(), of(), of()).luck(0, -1), NOT);
        Check.due("15: no such SONG", worlds(of(), of(), of()).luck(0, 0), EightWorlds.BAD);
    }

    private static void luckOfNineAndOfTwelve() {
        EightWorlds x = nine();
        Check.due("15: 36 pairs", x.luck(0, 0), 12000 / 36);
        Check.due("15: 36 pairs", x.luck(0, 1), 12000 / 36);
        Check.due("15: of all SONGS", x.luck(0, -1), 333);
        EightWorlds y = worlds(twelve(5), of(1), of(0, 0, 0, 0, 0, 0, 0, 0, 0, 0, 0, 1));
        Check.due("15: the last of twelve", y.luck(0, 11), 1000);
        Check.due("15: one between", y.luck(0, 5), 0);
        Check.due("15: of all twelve", y.luck(0, -1), 2000 / 12);
    }

    private static void luckByOneLaw() {
        EightWorlds x = Check.withSongs(1, 2);
        for (int law = 0; law < 6; law++) {
            Check.law(x, "w+" + law);
        }
        int[] laws = {5, 0, 5, 1, 0};
        for (int w = 0; w < 5; w++) {
            x.world(laws[w] * 10 + 1, 0, 0);
            Check.counts(x, w, w + 1, 9 - w);
        }
        Check.due("15: by the last LAW, WORLDS 0 and 2", x.luck(5, 0), 200);
        Check.due("15: by the first LAW, WORLDS 1 and 4", x.luck(0, 1), 300);
        Check.due("15: one WORLD alone", x.luck(1, 0), NOT);
        Check.due("15: none", x.luck(2, -1), NOT);
    }

    private static void right() {
        EightWorlds x = worlds(of(0, 999, 500), of(1, 9, 5), of(9, 1, 5), of(1, 9, 9), of(5, 9, 1));
        Check.due("16: all", x.right(0), 1000);
        Check.due("16: none go the same way", x.right(1), 0);
        Check.due("unlike COUNTS alone", x.right(2), 1000);
        Check.due("thousandths (cut)", x.right(3), 2000 / 3);
        x.worth(2, 999);
        Check.due("unlike WORTHS alone", x.right(0), 1000);
        x.worth(0, 999);
        Check.due("NOT: none", x.right(0), NOT);
        EightWorlds y = worlds(of(0, 1, 2, 3, 4, 5, 6, 7, 8, 9, 10, 11), of(0, 1, 2, 3, 4, 5, 6, 7, 8, 9, 10, 11),
            of(1, 0, 2, 3, 4, 5, 6, 7, 8, 9, 10, 11), of(0, 1, 2, 3, 4, 5, 6, 7, 8, 9, 11, 10));
        Check.due("16: 66 pairs", y.right(0), 1000);
        Check.due("16: 65 of 66", y.right(1), 65000 / 66);
        Check.due("16: 65 of 66", y.right(2), 65000 / 66);
    }

    private static void rightOfNone() {
        Check.due("NOT: no SONGS", worlds(of(), of()).right(0), NOT);
        Check.due("NOT: one SONG", worlds(of(7), of(3)).right(0), NOT);
        Check.due("NOT: like WORTHS", worlds(of(7, 7), of(3, 4)).right(0), NOT);
        Check.due("NOT: like COUNTS", worlds(of(7, 8), of(3, 3)).right(0), NOT);
        Check.due("NOT: no COUNTS", worlds(of(7, 8), of()).right(0), NOT);
        Check.due("16: one pair", worlds(of(7, 8), of(0, 1)).right(0), 1000);
        Check.due("16: one pair", worlds(of(8, 7), of(0, 1)).right(0), 0);
    }

    private static void guess() {
        EightWorlds x = worlds(of(1, 2, 3), of(1, 2, 3), of(2, 1, 3), of(5, 5, 5), of(2, 1, 1));
        Check.due("17: one WORLD", x.guess(1, 0), 1000);
        Check.due("17: one WORLD, BOUND", x.guess(1, 1), 1000);
        Check.due("thousandths (cut)", x.guess(2, 0), 2000 / 3);
        Check.due("the better way", x.guess(2, 1), 1000);
        Check.due("pairs added", x.guess(3, 0), 5000 / 6);
        Check.due("for each pair the better way", x.guess(3, 1), 5000 / 6);
        Check.due("a WORLD without such pairs", x.guess(7, 0), 5000 / 6);
        Check.due("NOT: no such pairs", x.guess(4, 0), NOT);
        Check.due("NOT: no such pairs", x.guess(4, 1), NOT);
        Check.due("17: none told", x.guess(0, 0), NOT);
        Check.due("17: the last alone", x.guess(8, 0), 0);
        Check.due("17: the last alone, BOUND", x.guess(8, 1), 1000);
        Check.due("17: all", x.guess(15, 0), 5000 / 8);
        Check.due("17: all, BOUND: 2 of 3, 2 of 3, 2 of 2", x.guess(15, 1), 6000 / 8);
        x.worth(1, 1);
        Check.due("unlike WORTHS alone", x.guess(15, 0), 4000 / 5);
    }

    private static void guessOfNine() {
        EightWorlds x = nine();
        // 1 to 9 .. 4 to 6 go the same way, 6 to 4 .. 9 to 1 do not
        Check.due("17: nine WORLDS", x.guess(511, 0), 4000 / 8);
        Check.due("17: nine WORLDS, BOUND", x.guess(511, 1), 500);
        Check.due("17: the last alone", x.guess(256, 0), 0);
        Check.due("17: the first and the last", x.guess(257, 0), 500);
        Check.due("17: five of them", x.guess(1 + 2 + 4 + 128 + 256, 1), 600);
        Check.due("17: like COUNTS", x.guess(16, 1), NOT);
    }

    private static void oddsOfNoneMore() {
        EightWorlds x = worlds(of(1, 2, 3, 4), of(3, 7, 0, 7));
        int[] first = {0, 1000000, 0, 0}, mean = {3000, 7000, 0, 7000};
        for (int s = 0; s < 4; s++) {
            Check.due("a WORLD as it is now", x.odds(0, s, 0, 0), first[s]);
            Check.due("MEAN COUNT now", x.odds(0, s, 0, 1), mean[s]);
        }
        EightWorlds y = worlds(of(0), of());
        Check.due("18: one SONG is first", y.odds(0, 0, 0, 0), 1000000);
        Check.due("18: and stays so", y.odds(0, 0, 6, 0), 1000000);
        Check.due("18: none is kept", y.odds(0, 0, 6, 1), 0);
    }

    /** ODDS by trying all that may come, of WEIGHTS c * cs + k * ks + t * ts + p * ps + i + 1, the list in order. */
    private static final class Tried {
        final int nothing, song, what;
        final int[] parts;

        Tried(int nothing, int song, int what, int... parts) {
            this.nothing = nothing;
            this.song = song;
            this.what = what;
            this.parts = parts;
        }

        long odds(int[] counts, int came, int kept, int m) {
            if (m == 0) {
                return what == 1 ? counts[song] * 1000L : place(counts, song) == 0 ? 1000000 : 0;
            }
            long sum = nothing, all = nothing > 0 ? nothing * odds(counts, came + 1, kept, m - 1) : 0;
            for (int s = 0; s < counts.length; s++) {
                int[] then = counts.clone();
                then[s]++;
                int weight = counts[s] * parts[0] + kept * parts[1] + came * parts[2] + place(counts, s) * parts[3]
                    + s + 1;
                sum += weight;
                all += weight * odds(then, came + 1, kept + 1, m - 1);
            }
            return all / sum;
        }

        private static int place(int[] counts, int song) {
            int place = 0;
            for (int s = 0; s < counts.length; s++) {
                place += counts[s] > counts[song] || (counts[s] == counts[song] && s < song) ? 1 : 0;
            }
            return place;
        }
    }

    private static void oddsOfAllThatMayCome() {
        int[][] laws = {{0, 0, 0, 0}, {9, 0, 0, 0}, {0, 7, 0, 0}, {0, 0, 5, 0}, {0, 0, 0, 3}, {4, 3, 2, 1}};
        int[] counts = {0, 1, 0, 2};
        for (int i = 0; i < laws.length; i++) {
            int[] l = laws[i];
            for (int songs = 1; songs <= 4; songs++) {
                EightWorlds x = Check.withSongs(new int[songs]);
                int[] begun = java.util.Arrays.copyOf(counts, songs);
                Check.law(x, "c*" + l[0] + "+k*" + l[1] + "+t*" + l[2] + "+p*" + l[3] + "+i+1");
                x.world(1, i, 5);
                Check.counts(x, 0, begun);
                for (int m = 0; m <= 6; m++) {
                    for (int what = 0; what < 2; what++) {
                        Tried tried = new Tried(i, songs - 1, what, l);
                        Check.due("18: LAW " + i + ", " + songs + " SONGS, " + m + " more, " + what,
                            x.odds(0, songs - 1, m, what), tried.odds(begun, 0, 0, m));
                    }
                }
            }
        }
    }

    private static void oddsOfNoWeights() {
        EightWorlds x = worlds(of(0, 0), of(1, 2));
        for (int m = 0; m <= 6; m++) {
            Check.due("sum 0: none is kept", x.odds(0, 1, m, 0), 1000000);
            Check.due("sum 0: none is kept", x.odds(0, 1, m, 1), 2000);
        }
        x.nothing(0, 9999);
        Check.due("NOTHING alone", x.odds(0, 1, 6, 1), 2000);
        Check.law(x, "t=5&k=0&i=0");
        x.world(11, 0, 1);
        Check.due("sum 0, till the sixth comes", x.odds(1, 0, 5, 1), 0);
        Check.due("sum 0, till the sixth comes", x.odds(1, 0, 6, 1), 1000);
        Check.due("they came though none is kept", x.odds(1, 1, 6, 1), 0);
    }

    private static void oddsTurnAtUntil() {
        EightWorlds x = Check.withSongs(1, 1, 1);
        Check.law(x, "p=0");
        Check.law(x, "c+p*100");
        x.world(2, 30000, 1);
        x.world(10, 30000, 1);
        // upside down for three: 2, 1, 0, and then the first in order, 0
        int[][] mean = {{0, 0, 1000}, {0, 1000, 1000}, {1000, 1000, 1000}, {2000, 1000, 1000}, {3000, 1000, 1000}};
        for (int m = 1; m <= 5; m++) {
            for (int s = 0; s < 3; s++) {
                Check.due("upside down till so many came, " + m + " more", x.odds(0, s, m, 1), mean[m - 1][s]);
            }
        }
        for (int s = 0; s < 3; s++) {
            Check.due("not shown: PLACE 0, COUNT 0", x.odds(1, s, 6, 1), 0);
        }
        Check.due("not shown: first all the same", x.odds(1, 0, 6, 0), 1000000);
        Check.due("nothing came of it", x.of(0, 0) + x.of(0, 1), 0);
        Check.keep(x, 0, -1, -1);
        Check.due("from who came on", x.odds(0, 2, 1, 1), 1000);
        Check.due("from who came on", x.odds(0, 2, 2, 1), 2000);
    }

    private static void oddsAtTheMost() {
        EightWorlds x = worlds(of(1), of());
        for (int i = 0; i < 10; i++) {
            x.crate(0, 0, 9999);
        }
        x.crate(0, 0, 6);
        Check.due("18: to 99998", x.odds(0, 0, 2, 1), 99998000);
        Check.due("18: to 99999", x.odds(0, 0, 3, 1), 99999000);
        Check.due("a COUNT of 99999 stays", x.odds(0, 0, 4, 1), 99999000);
        Check.due("a COUNT of 99999 stays", x.odds(0, 0, 6, 1), 99999000);
        EightWorlds y = Check.withSongs(0, 0, 0, 0);
        Check.law(y, "9999");
        y.world(1, 9999, 1);
        for (int i = 0; i < 44; i++) {
            y.crate(0, i % 4, 9999);
        }
        for (int s = 0; s < 4; s++) {
            Check.due("18: the greatest numbers", y.odds(0, s, 6, 0), s == 0 ? 1000000 : 0);
            Check.due("18: the greatest numbers", y.odds(0, s, 6, 1), 99999000);
        }
    }

    private static void oddsOfFourAndOfFive() {
        EightWorlds x = worlds(of(1, 1, 1, 1), of());
        for (int s = 0; s < 4; s++) {
            Check.due("18: six by four", x.odds(0, s, 6, 1), 1500);
        }
        Check.due("18: the last of four, one more", x.odds(0, 3, 1, 0), 250000);
        x.song(1);
        for (int s = 0; s < 5; s++) {
            Check.due("SONGS at most 4, else BIG", x.odds(0, s, 0, 0), BIG);
            Check.due("SONGS at most 4, else BIG", x.odds(0, s, 6, 1), BIG);
        }
    }

    private static int settled(int... keepings) {
        EightWorlds x = worlds(of(1, 2, 3), of(0, 9, 0));
        Check.keep(x, 0, keepings);
        return x.after(0);
    }

    private static void after() {
        Check.due("NOT: none KEPT", settled(), NOT);
        Check.due("NOT: none KEPT, though some came", settled(-1), NOT);
        Check.due("0: from the beginning, all COUNTS 0", settled(0), 0);
        Check.due("behind the first", settled(1), 1);
        Check.due("behind the first", settled(2, 2, 1, 0, 2), 1);
        Check.due("lost for one KEEPING to a like one", settled(2, 2, 1, 1, 2), 5);
        Check.due("behind the last", settled(0, 1, 1), 3);
        Check.due("of like ones by numbers, from the beginning", settled(0, 1, 0, 2), 0);
        Check.due("of like ones by numbers, behind the last", settled(1, 0), 2);
        Check.due("and stays so", settled(1, 0, 1, 0, 1), 5);
        Check.due("and stays so", settled(0, 1, 1, 0, 0), 4);
        Check.due("by KEEPINGS, not by who came", settled(-1, -1, 2, -1, 1, -1, 1), 2);
    }

    private static void afterTwoHundred() {
        EightWorlds x = Check.withSongs(1, 1);
        Check.law(x, "k<100?i=0;k<199?i=1;k<200?i=1;0");
        x.world(0, 0, 1);
        x.come(0, 199);
        Check.due("19: of 199, like ones no more", x.after(0), 0);
        x.come(0, 1);
        Check.due("19: of 200, like ones", x.after(0), 0);
        x.come(0, 1);
        Check.due("19: none more is KEPT", x.after(0), 0);
        Check.keep(x, 0, 1);
        Check.due("STATE: more than 200", x.after(0), STATE);
        Check.due("19: of 201", x.of(0, 1), 201);
        EightWorlds y = Check.withSongs(1, 1);
        Check.law(y, "k<99?i=0;k<199?i=1;1");
        y.world(0, 0, 1);
        y.come(0, 199);
        Check.due("19: behind the 199th", y.after(0), 199);
        Check.keep(y, 0, 1);
        Check.due("19: behind the 199th, of 200", y.after(0), 199);
        EightWorlds z = Check.withSongs(1, 1, 1);
        Check.law(z, "k<100?i=1;k<199?i=2;i=0");
        z.world(0, 0, 1);
        z.come(0, 199);
        Check.keep(z, 0, 2);
        Check.due("19: of like ones the first, of 200", z.after(0), 1);
        Check.keep(z, 0, -1, -1);
        Check.due("19: who keep none do not count", z.after(0), 1);
    }

    /** By the KEEPINGS of a WORLD alone: no CRATES, no COUNTS, no other WORLD, nothing that was asked ahead. */
    private static void afterAlone() {
        EightWorlds x = worlds(of(1, 1, 1), of(0, 50, 9), of(0, 0, 9), of(7, 0, 0));
        x.shop(0, 9);
        Check.due("CRATES do not count", x.after(0), NOT);
        Check.keep(x, 0, 1, 1, 1);
        Check.keep(x, 1, 2, 0, 0);
        Check.keep(x, 2, 2, 2, 0);
        for (int i = 0; i < 3; i++) {
            Check.due("21: a chart ahead", x.chart(0, 0), 1);
            Check.due("19: of WORLD 0", x.after(0), 1);
            Check.due("19: of WORLD 1", x.after(1), 2);
            Check.due("19: of WORLD 2", x.after(2), 1);
            Check.due("21: a chart behind", x.chart(0, 1), 9 * 53);
        }
        EightWorlds y = worlds(of(1, 1), of());
        for (int i = 0; i < 11; i++) {
            y.crate(0, 1, 9999);
        }
        Check.keep(y, 0, 0, 1, 1);
        Check.due("KEEPINGS of a COUNT that stays", y.after(0), 3);
        y.undo();
        Check.due("what is undone", y.after(0), 3);
    }
}
