/** Promises 20 to 30: shop, chart, crate, found, house, said, strong, line, against, undo, redo. */
public final class ChartsCratesHousesTest {
    private static final int MIN = Integer.MIN_VALUE, MAX = Integer.MAX_VALUE;
    private static final int VOID = EightWorlds.VOID;

    public static void main(String[] args) {
        shops();
        charts();
        crates();
        found();
        houses();
        said();
        saidOfWorlds();
        saidOfMany();
        strong();
        line();
        against();
        undoAndRedo();
        whatIsNoChange();
        anotherCameBehind();
        fortyAreKept();
        cratesAreUndoneToTheirCounts();
        cratesAtTheMostAreNoChange();
        cratesBehindAnUndoneOne();
        Check.end("ChartsCratesHousesTest");
    }

    private static EightWorlds worlds(int... worths) {
        EightWorlds x = Check.withSongs(worths);
        Check.law(x, "w");
        x.world(1, 0, 1);
        x.world(1, 0, 2);
        return x;
    }

    private static void shops() {
        EightWorlds x = worlds(1, 2);
        Check.due("20: shop(0, 9)", x.shop(0, 9), 0);
        Check.due("20: shop(0, 10)", x.shop(0, 10), EightWorlds.BAD);
        Check.due("20: shop(0, -1)", x.shop(0, -1), EightWorlds.BAD);
        Check.due("20: shop(2, 1)", x.shop(2, 1), EightWorlds.BAD);
        Check.due("20: shop(-1, 1)", x.shop(-1, 1), EightWorlds.BAD);
        Check.due("20: shop(0, 0)", x.shop(0, 0), 9);
        Check.due("20: shop(1, 3)", x.shop(1, 3), 0);
        Check.due("20: a shop is no change", x.undo(), EightWorlds.STATE);
    }

    private static void charts() {
        EightWorlds x = worlds(1, 2, 3, 4);
        Check.counts(x, 0, 5, 1, 2, 9);
        Check.counts(x, 1, 1, 3, 2, 0);
        for (int i = 0; i < 4; i++) {
            Check.due("21: no shops", x.chart(i, 0), i);
            Check.due("21: no shops", x.chart(i, 1), 0);
        }
        x.shop(0, 1);
        x.shop(1, 3);
        // 8, 10, 8, 9
        int[] order = {1, 3, 0, 2}, sums = {10, 9, 8, 8};
        for (int i = 0; i < 4; i++) {
            Check.due("21: chart(" + i + ", 0)", x.chart(i, 0), order[i]);
            Check.due("21: chart(" + i + ", 1)", x.chart(i, 1), sums[i]);
        }
        int[][] wrong = {{4, 0}, {-1, 0}, {0, 2}, {0, -1}, {MAX, 0}, {MIN, 1}};
        for (int[] call : wrong) {
            Check.due("21: wrong call", x.chart(call[0], call[1]), EightWorlds.BAD);
        }
        Check.due("21: without songs", new EightWorlds().chart(0, 0), EightWorlds.BAD);
    }

    private static void crates() {
        EightWorlds x = worlds(1, 2);
        Check.due("22: crate(0, 1, 9999)", x.crate(0, 1, 9999), 9999);
        Check.due("22: crate(0, 1, 1)", x.crate(0, 1, 1), 10000);
        int[][] wrong = {{0, 1, 0}, {0, 1, 10000}, {0, 1, -1}, {0, 2, 1}, {0, -1, 1}, {2, 0, 1}, {-1, 0, 1}, {0, 1, MIN}};
        for (int[] call : wrong) {
            Check.due("22: wrong call", x.crate(call[0], call[1], call[2]), EightWorlds.BAD);
        }
        Check.due("22: the count", x.of(0, 101), 10000);
        Check.due("22: none came", x.of(0, 0), 0);
        Check.due("22: none kept", x.of(0, 1), 0);
        Check.due("22: no keeping", x.led(0, 0), EightWorlds.BAD);
        Check.due("22: no other world", x.of(1, 101), 0);
        for (int i = 2; i < 10; i++) {
            x.crate(0, 1, 9999);
        }
        Check.due("22: 99999 at most", x.crate(0, 1, 9999), 99991);
        Check.due("22: 99999 at most", x.crate(0, 1, 8), 99999);
        Check.due("22: 99999 at most", x.crate(0, 1, 9999), 99999);
    }

    private static void found() {
        EightWorlds x = worlds(10, 30, 60);
        Check.due("23: no counts", x.found(0, 0), EightWorlds.NOT);
        Check.counts(x, 0, 2, 5, 4);
        // parts 1, 3, 6 of 11: 1, 2, -2
        Check.due("23: found", x.found(0, 0), 1);
        Check.due("23: by how much", x.found(0, 1), 2);
        x.crate(0, 0, 1);
        // parts 1, 3, 7 of 12: 2, 2, -3
        Check.due("23: of like ones the first", x.found(0, 0), 0);
        Check.due("23: by how much", x.found(0, 1), 2);
        Check.due("23: what 2", x.found(0, 2), EightWorlds.BAD);
        Check.due("23: what -1", x.found(0, -1), EightWorlds.BAD);
        Check.due("23: world 2", x.found(2, 0), EightWorlds.BAD);
        Check.due("23: world -1", x.found(-1, 0), EightWorlds.BAD);
        EightWorlds y = worlds(0, 0);
        Check.counts(y, 0, 1, 1);
        Check.due("23: no worths", y.found(0, 0), EightWorlds.NOT);
        Check.due("23: no songs", worlds().found(0, 1), EightWorlds.NOT);
        EightWorlds z = worlds(999, 999, 999, 999, 999, 999, 999, 999, 999, 999, 999, 999);
        for (int i = 0; i < 11 * 12; i++) {
            z.crate(0, i % 12, 9999);
        }
        Check.due("23: the greatest numbers", z.found(0, 0), 0);
        Check.due("23: the greatest numbers", z.found(0, 1), 0);
    }

    private static void houses() {
        EightWorlds x = worlds(1, 2, 3, 4, 5);
        Check.counts(x, 0, 1, 7, 3, 3, 9);
        // 4 1 2 3 0; signed 0, 2, 4
        int[] want = {2, 1800, 200, 1};
        for (int what = 0; what < 4; what++) {
            Check.due("24: house(0, 21, 3, " + what + ")", x.house(0, 21, 3, what), want[what]);
        }
        int[] unlucky = {0, 400, -400, 9};
        for (int what = 0; what < 4; what++) {
            Check.due("24: house(0, 9, 1, " + what + ")", x.house(0, 9, 1, what), unlucky[what]);
        }
        Check.due("24: all of them", x.house(0, 31, 5, 0), 5);
        Check.due("24: by chance", x.house(0, 31, 5, 1), 5000);
        Check.due("24: none signed", x.house(0, 0, 5, 2), 0);
        int[][] wrong = {{2, 1, 1, 0}, {-1, 1, 1, 0}, {0, 32, 1, 0}, {0, -1, 1, 0}, {0, 1, 0, 0}, {0, 1, 6, 0},
            {0, 1, -1, 0}, {0, 1, 13, 0}, {0, 1, 1, 4}, {0, 1, 1, -1}, {0, MIN, 1, 0}, {0, MAX, 1, 0}};
        for (int[] call : wrong) {
            Check.due("24: wrong call", x.house(call[0], call[1], call[2], call[3]), VOID);
        }
        Check.due("24: no songs", worlds().house(0, 0, 1, 0), VOID);
        EightWorlds y = worlds(0, 1, 2, 3, 4, 5, 6, 7, 8, 9, 10, 11);
        Check.due("24: twelve", y.house(0, 4095, 12, 0), 12);
        Check.due("24: twelve", y.house(0, 4096, 12, 0), VOID);
    }

    private static void said() {
        EightWorlds x = Check.withSongs(5, 1, 3);
        Check.law(x, "w");
        Check.law(x, "7");
        Check.law(x, "9-p");
        Check.law(x, "p");
        Check.law(x, "i=0?5;c+t+k");
        Check.law(x, "w>2");
        int[] want = {1, 6, 6, 0, 2, 2};
        for (int law = 0; law < 6; law++) {
            Check.due("25: said(" + law + ", -1)", x.said(law, -1), want[law]);
        }
        Check.due("25: said(6, -1)", x.said(6, -1), EightWorlds.BAD);
        Check.due("25: said(-1, -1)", x.said(-1, -1), EightWorlds.BAD);
        Check.due("25: said(0, 0)", x.said(0, 0), EightWorlds.BAD);
        Check.due("25: said(0, -2)", x.said(0, -2), EightWorlds.BAD);
        EightWorlds y = new EightWorlds();
        Check.law(y, "p");
        Check.due("25: the one order of no songs", y.said(0, -1), 1);
        y.song(1);
        Check.due("25: the one order of one song", y.said(0, -1), 1);
    }

    private static void saidOfWorlds() {
        EightWorlds x = worlds(5, 1, 3);
        Check.law(x, "w*10-p*25");
        Check.law(x, "c*100+t+k+w");
        Check.counts(x, 0, 9, 1, 4);
        Check.counts(x, 1, 4, 9, 1);
        Check.due("25: by worth", x.said(0, 0), 1);
        Check.due("25: not by worth", x.said(0, 1), 0);
        // 50, 5, 0 and 10, 25
        Check.due("25: places count", x.said(1, 0), 1);
        Check.due("25: places count", x.said(1, 1), 0);
        Check.due("25: counts and who came do not", x.said(2, 0), 1);
        Check.due("25: counts and who came do not", x.said(2, 1), 0);
        Check.due("25: said(0, 2)", x.said(0, 2), EightWorlds.BAD);
    }

    private static void saidOfMany() {
        EightWorlds x = worlds(1, 2, 3, 4, 5, 6);
        Check.law(x, "5");
        Check.due("25: six songs", x.said(1, -1), 720);
        Check.due("25: six songs", x.said(0, -1), 1);
        x.song(7);
        Check.due("25: seven are too many", x.said(0, -1), EightWorlds.BIG);
        Check.due("25: BAD ahead of BIG", x.said(2, -1), EightWorlds.BAD);
        Check.due("25: not for a world's", x.said(1, 0), 1);
        Check.due("25: not for a world's", x.said(0, 0), 0);
    }

    /** UNLIKE of two WORLDS of a LAW behind n people, made in an object of its own. */
    private static int unlike(String law, int n, int seed) {
        EightWorlds x = Check.withSongs(300, 200, 100, 50);
        Check.law(x, law);
        x.world(1, 0, seed);
        x.world(1, 0, seed + 1);
        for (int left = n; left > 0; left -= 200) {
            x.come(0, Math.min(left, 200));
            x.come(1, Math.min(left, 200));
        }
        return x.unlike(1);
    }

    private static void strong() {
        EightWorlds x = Check.withSongs(300, 200, 100, 50);
        Check.law(x, "w");
        Check.law(x, "c*c+1+(4-p)*t+k");
        for (int n : new int[] {1, 2, 17, 200, 400}) {
            for (int seed : new int[] {0, 5, -1, MAX, MIN}) {
                int want = unlike("w", n, seed) - unlike("c*c+1+(4-p)*t+k", n, seed);
                Check.due("26: strong(1, " + n + ", " + seed + ")", x.strong(1, n, seed), want);
                Check.due("26: strong(10, " + n + ", " + seed + ")", x.strong(10, n, seed), -want);
            }
        }
        int[][] wrong = {{0, 1}, {11, 1}, {2, 1}, {20, 1}, {-1, 1}, {-10, 1}, {MIN, 1}, {MAX, 1}, {1, 0}, {1, 401}, {1, -1}};
        for (int[] call : wrong) {
            Check.due("26: wrong call", x.strong(call[0], call[1], 0), VOID);
        }
        Check.due("26: no worlds come of it", x.count(2), 0);
    }

    private static void line() {
        EightWorlds x = worlds(1, 2, 3, 4);
        x.world(0, 0, 0);
        x.world(2, 9990000, 0);
        Check.counts(x, 0, 4, 3, 2, 1);
        Check.counts(x, 1, 1, 2, 3, 4);
        Check.counts(x, 2, 3, 4, 1, 2);
        Check.counts(x, 3, 4, 3, 1, 2);
        Check.due("27: upside down of it", x.line(1), 3 + 1 + 1 + 3);
        Check.due("27: line(10)", x.line(10), 8);
        Check.due("27: a list not shown", x.line(2), 4);
        Check.due("27: a list shown upside down", x.line(3), 2);
        for (int vw : new int[] {0, 11, 4, 40, -1, -12, 100, MIN, MAX}) {
            Check.due("27: line(" + vw + ")", x.line(vw), EightWorlds.BAD);
            Check.due("28: against(" + vw + ", 1, 1)", x.against(vw, 1, 1), EightWorlds.BAD);
        }
        Check.due("27: no songs", worlds().line(1), 0);
    }

    private static void against() {
        EightWorlds x = worlds(1, 2, 3, 4);
        Check.counts(x, 0, 4, 3, 2, 1);
        Check.counts(x, 1, 4, 2, 3, 1);
        int[] first = {0, 1, 2, 3}, places = {0, 2, 1, 3};
        int z = -77, near = 0;
        for (int n = 1; n <= 50; n++) {
            for (int s = 3; s > 0; s--) {
                z = z * 1103515245 + 12345;
                int j = (z >>> 8) % (s + 1), was = places[s];
                places[s] = places[j];
                places[j] = was;
            }
            int far = 0;
            for (int s = 0; s < 4; s++) {
                far += Math.abs(first[s] - places[s]);
            }
            near += far <= 2 ? 1 : 0;
            Check.due("28: against(1, -77, " + n + ")", x.against(1, -77, n), near);
        }
        Check.due("28: n 0", x.against(1, 0, 0), EightWorlds.BAD);
        Check.due("28: n 51", x.against(1, 0, 51), EightWorlds.BAD);
        Check.due("28: n -1", x.against(1, 0, -1), EightWorlds.BAD);
        Check.due("28: no songs", worlds().against(1, 0, 50), 50);
        Check.due("28: one song", worlds(4).against(1, 0, 50), 50);
        Check.due("28: the counts are as they were", x.of(1, 201), 2);
    }

    private static void undoAndRedo() {
        EightWorlds x = worlds(5, 6);
        x.worth(1, 60);
        x.nothing(1, 70);
        x.crate(1, 0, 80);
        Check.due("29: three changes", x.count(4), 3);
        Check.due("30: none to do again", x.redo(), EightWorlds.STATE);
        Check.due("29: undo", x.undo(), 2);
        Check.due("29: the crate", x.of(1, 100), 0);
        Check.due("29: undo", x.undo(), 1);
        Check.due("29: undo", x.undo(), 0);
        Check.due("29: none is left", x.undo(), EightWorlds.STATE);
        Check.due("29: count", x.count(4), 0);
        Check.due("30: redo", x.redo(), 2);
        Check.due("30: redo", x.redo(), 1);
        Check.due("30: count", x.count(4), 2);
        Check.due("30: not yet", x.of(1, 100), 0);
        Check.due("30: redo", x.redo(), 0);
        Check.due("30: none is left", x.redo(), EightWorlds.STATE);
        Check.due("30: the crate", x.of(1, 100), 80);
        Check.due("30: the worth", x.worth(1, 60), 60);
        Check.due("30: nothing", x.nothing(1, 70), 70);
        x.undo();
        x.undo();
        x.undo();
        Check.due("29: nothing", x.nothing(1, 0), 0);
        Check.due("29: the worth", x.worth(1, 6), 6);
        Check.due("30: that was no change", x.redo(), 2);
    }

    private static void whatIsNoChange() {
        EightWorlds x = worlds(5, 6);
        x.worth(1, 6);
        x.nothing(0, 0);
        x.shop(0, 5);
        x.come(0, 5);
        Check.keep(x, 0, 1, 0);
        x.worth(1, 1000);
        x.crate(0, 0, 0);
        Check.due("29: no changes", x.undo(), EightWorlds.STATE);
        Check.due("29: count", x.count(4), 0);
    }

    private static void anotherCameBehind() {
        EightWorlds x = worlds(5, 6);
        x.worth(0, 1);
        x.worth(0, 2);
        x.undo();
        x.worth(0, 1);
        Check.due("30: the same number is none", x.redo(), 0);
        x.undo();
        x.come(0, 3);
        x.nothing(1, 4);
        Check.due("30: another came behind", x.redo(), EightWorlds.STATE);
        Check.due("29: count", x.count(4), 2);
        Check.due("29: undo", x.undo(), 1);
        Check.due("29: the one ahead", x.worth(0, 1), 1);
        Check.due("29: undo", x.undo(), 0);
        Check.due("29: the first", x.worth(0, 5), 5);
        Check.due("30: redo", x.redo(), 1);
    }

    private static void fortyAreKept() {
        EightWorlds x = worlds(0);
        for (int v = 1; v <= 45; v++) {
            x.worth(0, v);
        }
        Check.due("29: forty", x.count(4), 40);
        for (int left = 39; left >= 0; left--) {
            Check.due("29: undo", x.undo(), left);
            Check.due("29: one ahead", x.worth(0, left + 5), left + 5);
        }
        Check.due("29: the oldest are not kept", x.undo(), EightWorlds.STATE);
        Check.due("29: as far as they go", x.worth(0, 5), 5);
        for (int left = 39; left >= 0; left--) {
            Check.due("30: redo", x.redo(), left);
            Check.due("30: one behind", x.worth(0, 45 - left), 45 - left);
        }
        Check.due("30: to the last", x.worth(0, 45), 45);
        Check.due("29: undo", x.undo(), 39);
        x.worth(0, 500);
        Check.due("29: forty again", x.count(4), 40);
        x.undo();
        Check.due("29: one ahead of it", x.worth(0, 44), 44);
    }

    private static void cratesAreUndoneToTheirCounts() {
        EightWorlds x = worlds(1, 1);
        x.crate(0, 1, 10);
        Check.keep(x, 0, 1, 1);
        x.crate(0, 1, 5);
        Check.keep(x, 0, 1);
        Check.due("29: by all of them", x.of(0, 101), 18);
        x.undo();
        Check.due("29: as it was ahead", x.of(0, 101), 12);
        x.undo();
        Check.due("29: as it was ahead", x.of(0, 101), 0);
        Check.due("29: kept stays", x.of(0, 1), 3);
        Check.due("29: keepings stay", x.after(0), 1);
        x.redo();
        Check.due("30: as it was behind", x.of(0, 101), 10);
        x.redo();
        Check.due("30: as it was behind", x.of(0, 101), 17);
    }

    /** A WORLD whose first SONG has a COUNT of 99999, by eleven CRATES. */
    private static EightWorlds atTheMost() {
        EightWorlds x = worlds(1, 1);
        x.crate(0, 0, 9);
        for (int i = 0; i < 10; i++) {
            x.crate(0, 0, 9999);
        }
        Check.due("22: the count", x.of(0, 100), 99999);
        Check.due("29: eleven crates", x.count(4), 11);
        return x;
    }

    private static void cratesAtTheMostAreNoChange() {
        EightWorlds x = atTheMost();
        Check.due("22: at the most already", x.crate(0, 0, 1), 99999);
        Check.due("22: at the most already", x.crate(0, 0, 9999), 99999);
        Check.due("29: those are none", x.count(4), 11);
        x.crate(0, 1, 5);
        Check.due("29: another song's is one", x.count(4), 12);
        Check.due("29: undo", x.undo(), 11);
        Check.due("22: between an undone one and its redo", x.crate(0, 0, 7), 99999);
        Check.due("30: it did not come behind", x.redo(), 0);
        Check.due("30: the crate", x.of(0, 101), 5);
        x.undo();
        Check.due("29: undo", x.undo(), 10);
        Check.due("29: the last that was one", x.of(0, 100), 90000);
        Check.due("22: a part of it is one", x.crate(0, 0, 9999), 99999);
        Check.due("29: it is one", x.count(4), 11);
        Check.due("30: it came behind", x.redo(), EightWorlds.STATE);
    }

    /** Fewer copies than told are a change, as long as there is one; forty are kept of what are changes alone. */
    private static void cratesBehindAnUndoneOne() {
        EightWorlds x = atTheMost();
        x.undo();
        x.crate(0, 0, 9998);
        Check.due("22: one below the most", x.of(0, 100), 99998);
        Check.due("22: of two one", x.crate(0, 0, 2), 99999);
        Check.due("29: it is one", x.count(4), 12);
        for (int i = 0; i < 40; i++) {
            x.crate(0, 0, 1 + i);
        }
        Check.due("29: none of forty", x.count(4), 12);
        Check.due("29: undo", x.undo(), 11);
        Check.due("29: as it was ahead", x.of(0, 100), 99998);
        Check.keep(x, 0, 0);
        Check.due("22: a keeping took it there", x.crate(0, 0, 3), 99999);
        Check.due("30: so it is none", x.redo(), 0);
        for (int left = 11; left >= 0; left--) {
            Check.due("29: undo", x.undo(), left);
        }
        Check.due("29: to the first", x.of(0, 100), 0);
        Check.due("29: none is left", x.undo(), EightWorlds.STATE);
    }
}
