/**
 * Terms 3 and promises 20 to 30 at their edges: SHOPS, CRATES, HOUSES, TEXTS that are true of orders, what is
 * worked out in thought, shuffles, and CHANGES from none to forty and on.
 */
public final class EdgesOfChartsTest {
    private static final int MIN = Integer.MIN_VALUE, MAX = Integer.MAX_VALUE;
    private static final int BIG = EightWorlds.BIG, NOT = EightWorlds.NOT, STATE = EightWorlds.STATE;

    public static void main(String[] args) {
        shops();
        chartOfNothing();
        theGreatestChart();
        crates();
        cratesAtTheMost();
        found();
        foundOfNothing();
        theGreatestFound();
        houses();
        housesOfTwelve();
        housesOfAllShows();
        saidOfFew();
        saidIsHeld();
        saidSeesItsPlaceAlone();
        saidOfSixAndSeven();
        strong();
        strongBehindOdds();
        strongOfSixLaws();
        lines();
        linesOfNine();
        against();
        againstOfFew();
        changesOfOneKind();
        changesOfAllKinds();
        cratesAmongKeepings();
        fortyAreKept();
        whatIsNoChange();
        whatEndsNoRedo();
        askingChangesNothing();
        Check.end("EdgesOfChartsTest");
    }

    private static EightWorlds worlds(int... worths) {
        EightWorlds x = Check.withSongs(worths);
        Check.law(x, "w");
        x.world(1, 0, 1);
        x.world(1, 0, 2);
        return x;
    }

    private static int[] twelve(int first) {
        int[] all = new int[12];
        for (int s = 0; s < 12; s++) {
            all[s] = first + s;
        }
        return all;
    }

    private static void shops() {
        EightWorlds x = worlds(1, 1);
        Check.due("20: 0 at first", x.shop(1, 0), 0);
        for (int v = 1; v <= 9; v++) {
            Check.due("a SHOP's weight (0 .. 9)", x.shop(1, v), v - 1);
        }
        Check.counts(x, 1, 5, 6);
        Check.due("21: the most", x.chart(0, 1), 54);
        Check.due("a SHOP's weight (0 .. 9)", x.shop(1, 0), 9);
        Check.due("21: the least", x.chart(0, 1), 0);
        Check.due("20: the other one's", x.shop(0, 9), 0);
    }

    private static void chartOfNothing() {
        EightWorlds x = Check.withSongs(twelve(1));
        for (int i = 0; i < 12; i++) {
            Check.due("21: no WORLDS, by numbers", x.chart(i, 0), i);
            Check.due("21: no WORLDS", x.chart(i, 1), 0);
        }
        Check.law(x, "w");
        x.world(1, 0, 0);
        x.crate(0, 11, 5);
        Check.due("21: a SHOP of 0", x.chart(11, 0), 11);
        x.shop(0, 1);
        Check.due("21: the 0th", x.chart(0, 0), 11);
        Check.due("21: the last", x.chart(11, 0), 10);
        x.crate(0, 3, 5);
        Check.due("of like ones by numbers", x.chart(0, 0), 3);
        Check.due("of like ones by numbers", x.chart(1, 0), 11);
        Check.due("of like ones by numbers", x.chart(2, 0), 0);
        Check.due("the last of them", x.chart(11, 0), 10);
        x.crate(0, 0, 6);
        Check.due("the first SONG", x.chart(0, 0), 0);
        Check.due("the first SONG", x.chart(0, 1), 6);
    }

    private static void theGreatestChart() {
        EightWorlds x = Check.withSongs(1, 1);
        Check.law(x, "w");
        for (int w = 0; w < 9; w++) {
            x.world(1, 0, w);
            x.shop(w, 9);
            for (int i = 0; i < 11; i++) {
                x.crate(w, 1, 9999);
            }
        }
        Check.due("21: all nine WORLDS", x.chart(0, 1), 9 * 9 * 99999);
        Check.due("21: the SONG", x.chart(0, 0), 1);
        x.shop(8, 8);
        Check.due("21: the last WORLD too", x.chart(0, 1), 80 * 99999);
    }

    private static void crates() {
        EightWorlds x = worlds(1, 2);
        x.come(0, 5);
        int[] was = {x.of(0, 0), x.of(0, 1), x.of(0, 100), x.of(0, 101)};
        Check.due("m copies (1 .. 9999)", x.crate(0, 0, 1), was[2] + 1);
        Check.due("m copies (1 .. 9999)", x.crate(0, 1, 9999), was[3] + 9999);
        Check.due("none CAME", x.of(0, 0), was[0]);
        Check.due("KEPT as it is", x.of(0, 1), was[1]);
        Check.due("no KEEPING", x.led(0, was[1]), EightWorlds.BAD);
        Check.due("its COUNT then", x.of(0, 100), was[2] + 1);
        Check.due("its COUNT then", x.of(0, 101), was[3] + 9999);
        Check.due("no other WORLD", x.of(1, 100), 0);
        EightWorlds y = worlds(1, 2);
        y.come(0, 5);
        x.come(0, 50);
        y.come(0, 50);
        for (int k = 0; k < 55; k++) {
            Check.due("and no draw", x.led(0, k), y.led(0, k));
        }
    }

    /** Brings a COUNT to so many by CRATES. */
    private static void raise(EightWorlds x, int world, int song, int count) {
        while (x.of(world, 100 + song) < count) {
            x.crate(world, song, Math.min(9999, count - x.of(world, 100 + song)));
        }
    }

    private static void cratesAtTheMost() {
        int[][] due = {{99997, 1, 99998}, {99998, 1, 99999}, {99998, 2, 99999}, {99999, 1, 99999},
            {90000, 9999, 99999}, {90001, 9999, 99999}, {90000, 9998, 99998}, {99999, 9999, 99999}};
        for (int[] one : due) {
            EightWorlds x = worlds(1, 2);
            raise(x, 1, 1, one[0]);
            Check.due("99999 at most, of " + one[0] + " and " + one[1], x.crate(1, 1, one[1]), one[2]);
            Check.due("99999 at most", x.of(1, 101), one[2]);
        }
    }

    private static void found() {
        EightWorlds x = worlds(1, 2, 0);
        Check.counts(x, 0, 0, 0, 3);
        Check.due("23: no WORTH, no part", x.found(0, 0), 2);
        Check.due("23: by all of them", x.found(0, 1), 3);
        x.crate(0, 1, 7);
        // 10: parts 3, 6 and 0, cut
        Check.due("23: of like ones no more", x.found(0, 0), 2);
        Check.due("(cut)", x.found(0, 1), 3);
        x.crate(0, 1, 6);
        // 16: parts 5, 10 and 0, cut: -5, 3, 3
        Check.due("of like ones the first", x.found(0, 0), 1);
        Check.due("of like ones the first", x.found(0, 1), 3);
        EightWorlds y = worlds(5);
        Check.counts(y, 0, 9);
        Check.due("23: one SONG", y.found(0, 0), 0);
        Check.due("23: all is its part", y.found(0, 1), 0);
        EightWorlds z = worlds(3, 3);
        Check.counts(z, 0, 4, 5);
        Check.due("23: parts 4 and 4, cut", z.found(0, 0), 1);
        Check.due("23: parts 4 and 4, cut", z.found(0, 1), 1);
    }

    private static void foundOfNothing() {
        EightWorlds x = worlds(0, 0);
        Check.due("NOT: no COUNTS, no WORTHS", x.found(0, 0), NOT);
        x.crate(0, 0, 1);
        Check.due("NOT: no WORTHS", x.found(0, 0), NOT);
        Check.due("NOT: no WORTHS", x.found(0, 1), NOT);
        x.worth(1, 1);
        Check.due("23: the least of both", x.found(0, 0), 0);
        Check.due("23: the least of both", x.found(0, 1), 1);
        Check.due("NOT: no COUNTS", x.found(1, 0), NOT);
        x.undo();
        x.undo();
        x.worth(0, 999);
        Check.due("NOT: no COUNTS any more", x.found(0, 1), NOT);
        Check.due("NOT: no SONGS", worlds().found(0, 0), NOT);
    }

    private static void theGreatestFound() {
        EightWorlds x = worlds(999, 999, 999, 999, 999, 999, 999, 999, 999, 999, 999, 999);
        for (int i = 0; i < 12 * 11; i++) {
            x.crate(0, i % 12, 9999);
        }
        for (int s = 0; s < 11; s++) {
            x.worth(s, 0);
        }
        Check.due("23: all WORTH is the last one's", x.found(0, 0), 0);
        Check.due("23: the first of eleven", x.found(0, 1), 99999);
        x.worth(0, 999);
        Check.due("23: of 1199988 the half", x.found(0, 0), 1);
        EightWorlds y = worlds(999, 999, 999, 999, 999, 999, 999, 999, 999, 999, 999, 998);
        for (int i = 0; i < 12 * 11; i++) {
            y.crate(0, i % 12, 9999);
        }
        // parts of 1199988: 1199988 * 998 by 11987 is 99907, cut
        Check.due("23: the one of the least WORTH", y.found(0, 0), 11);
        Check.due("23: by how much", y.found(0, 1), 99999 - (int) (1199988L * 998 / 11987));
    }

    private static void house(EightWorlds x, int signed, int h, int hits, int chance, int drawer) {
        Check.due("how many of the signed are HITS", x.house(0, signed, h, 0), hits);
        Check.due("by chance, cut", x.house(0, signed, h, 1), chance);
        Check.due("LEANS: the first less the latter", x.house(0, signed, h, 2), hits * 1000 - chance);
        Check.due("DRAWER: signed ones that are no HITS", x.house(0, signed, h, 3), drawer);
    }

    private static void houses() {
        EightWorlds x = worlds(1, 1, 1);
        // no COUNTS: the first by numbers
        house(x, 0, 1, 0, 0, 0);
        house(x, 0, 3, 0, 0, 0);
        house(x, 1, 1, 1, 333, 0);
        house(x, 4, 1, 0, 333, 4);
        house(x, 4, 2, 0, 666, 4);
        house(x, 4, 3, 1, 1000, 0);
        house(x, 7, 1, 1, 1000, 6);
        house(x, 7, 3, 3, 3000, 0);
        Check.counts(x, 0, 0, 5, 5);
        house(x, 1, 2, 0, 666, 1);
        house(x, 2, 1, 1, 333, 0);
        house(x, 4, 1, 0, 333, 4);
        house(x, 6, 2, 2, 1333, 0);
        EightWorlds y = worlds(5);
        house(y, 0, 1, 0, 0, 0);
        house(y, 1, 1, 1, 1000, 0);
        Check.due("h above SONGS", y.house(0, 1, 2, 0), EightWorlds.VOID);
        Check.due("h above SONGS, none", worlds().house(0, 0, 1, 0), EightWorlds.VOID);
    }

    private static void housesOfTwelve() {
        EightWorlds x = worlds(twelve(0));
        x.crate(0, 11, 2);
        x.crate(0, 10, 1);
        house(x, 4095, 12, 12, 12000, 0);
        house(x, 4095, 1, 1, 1000, 2047);
        house(x, 2048, 1, 1, 83, 0);
        house(x, 1024, 1, 0, 83, 1024);
        house(x, 1024, 2, 1, 166, 0);
        house(x, 1 + 512, 11, 1, 1833, 512);
        house(x, 0, 12, 0, 0, 0);
    }

    /** HITS are the first by COUNTS, whatever the list that is shown. */
    private static void housesOfAllShows() {
        EightWorlds x = Check.withSongs(1, 1, 1);
        Check.law(x, "w");
        for (int show = 0; show < 3; show++) {
            x.world(show, 9990000, 1);
            Check.counts(x, show, 1, 3, 2);
            Check.due("HITS are the first h, SHOW " + show, x.house(show, 2, 1, 0), 1);
            Check.due("HITS are the first h, SHOW " + show, x.house(show, 7, 2, 3), 1);
        }
    }

    private static void saidOfFew() {
        EightWorlds x = new EightWorlds();
        Check.law(x, "p");
        Check.law(x, "9-p");
        x.world(1, 0, 0);
        Check.due("25: the one order of no SONGS", x.said(0, -1), 1);
        Check.due("25: a WORLD's, of no SONGS", x.said(0, 0), 1);
        x.song(5);
        Check.due("each SONG but the last: one SONG", x.said(0, -1), 1);
        Check.due("each SONG but the last: a WORLD's", x.said(0, 0), 1);
        x.song(5);
        Check.due("25: two orders, true of none", x.said(0, -1), 0);
        Check.due("25: two orders, true of both", x.said(1, -1), 2);
        Check.due("25: a WORLD's, 0 and 1", x.said(0, 0), 0);
        Check.due("25: a WORLD's, 9 and 8", x.said(1, 0), 1);
        EightWorlds y = worlds(4, 4, 4, 1);
        Check.due("no less than that of the next one: like ones", y.said(0, -1), 6);
        y.worth(3, 5);
        Check.due("25: the last is more", y.said(0, 0), 0);
        y.crate(0, 3, 1);
        Check.due("25: and is first", y.said(0, 0), 1);
    }

    private static void saidIsHeld() {
        EightWorlds x = worlds(1, 2, 3);
        Check.law(x, "9998+w");
        Check.law(x, "0-w");
        Check.law(x, "1-w");
        Check.due("25: held within .. 9999", x.said(1, -1), 6);
        Check.due("25: held within 0 ..", x.said(2, -1), 6);
        Check.due("25: held within 0 ..", x.said(3, -1), 6);
        Check.due("25: a WORLD's", x.said(1, 0), 1);
        x.worth(0, 0);
        Check.due("25: one below the most", x.said(1, -1), 2);
        Check.due("25: one above the least", x.said(3, -1), 2);
        Check.due("25: a WORLD's, one below the most", x.said(1, 0), 0);
        Check.due("25: a WORLD's, one above the least", x.said(3, 0), 1);
    }

    private static void saidSeesItsPlaceAlone() {
        EightWorlds x = Check.withSongs(2, 2, 2);
        Check.law(x, "c|t|k?p;9-p");
        Check.law(x, "n=3?9-p;p");
        Check.law(x, "9-i");
        Check.law(x, "i=2&p=0|i=0&p=1|i=1&p=2");
        x.world(10, 0, 1);
        x.world(12, 9990000, 1);
        x.world(11, 0, 1);
        for (int w = 0; w < 3; w++) {
            Check.counts(x, w, 2, 1, 2);
            Check.keep(x, w, 2, -1);
            Check.due("with c 0, t 0, k 0, of SHOW " + x.of(w, 3), x.said(0, w), 1);
            Check.due("n: how many SONGS", x.said(1, w), 1);
            Check.due("i: not by numbers", x.said(2, w), 0);
            Check.due("its PLACE as p, in order", x.said(3, w), 1);
        }
        Check.due("with c 0, t 0, k 0", x.said(0, -1), 6);
        Check.due("n: how many SONGS", x.said(1, -1), 6);
        Check.due("i: by numbers", x.said(2, -1), 1);
        // 2 0 1 (1 1 1), 2 1 0 (1 0 0), 0 1 2 and 1 2 0 (0 0 0)
        Check.due("each with its own PLACE", x.said(3, -1), 4);
    }

    private static void saidOfSixAndSeven() {
        EightWorlds x = worlds(6, 5, 4, 3, 2, 1);
        Check.law(x, "1");
        Check.due("25: all orders of six", x.said(1, -1), 720);
        Check.due("25: one order of six", x.said(0, -1), 1);
        x.song(0);
        Check.due("at most 6, else BIG", x.said(1, -1), BIG);
        for (int s = 7; s < 12; s++) {
            x.song(0);
        }
        Check.due("at most 6, else BIG", x.said(0, -1), BIG);
        Check.due("a WORLD's, of any number of SONGS", x.said(0, 0), 1);
        x.crate(0, 11, 1);
        Check.due("a WORLD's, the last ahead", x.said(0, 0), 0);
        Check.due("a WORLD's, like ones", x.said(1, 0), 1);
        x.worth(11, 6);
        Check.due("a WORLD's, the last no less", x.said(0, 0), 1);
        x.worth(10, 1);
        Check.due("a WORLD's, the last of them more", x.said(0, 0), 0);
    }

    /** UNLIKE of two new WORLDS of a LAW behind n people; SHOW 1, NOTHING 0. */
    private static int unlike(String law, int n, int seed) {
        EightWorlds x = Check.withSongs(30, 20, 10);
        Check.law(x, law);
        x.world(1, 0, seed);
        x.world(1, 0, seed + 1);
        for (int w = 0; w < 2; w++) {
            x.come(w, (n + 1) / 2);
            x.come(w, n / 2);
        }
        return x.unlike(1);
    }

    private static void strong() {
        EightWorlds x = Check.withSongs(30, 20, 10);
        Check.law(x, "w+c*c");
        Check.law(x, "0");
        Check.law(x, "p=0|t");
        for (int n : new int[] {1, 2, 399, 400}) {
            for (int seed : new int[] {0, -1, MAX, MIN, 12}) {
                int one = unlike("w+c*c", n, seed), other = unlike("p=0|t", n, seed);
                Check.due("26: n people (1 .. 400), none keeps by the other, " + n, x.strong(1, n, seed), one);
                Check.due("by the one less by the other", x.strong(10, n, seed), -one);
                Check.due("SEEDS told, and 1 more", x.strong(2, n, seed), one - other);
            }
        }
        EightWorlds y = new EightWorlds();
        Check.law(y, "1");
        Check.law(y, "2");
        Check.due("26: no SONGS", y.strong(1, 400, 5), 0);
        EightWorlds z = Check.withSongs(twelve(1));
        Check.law(z, "w");
        Check.law(z, "i=11|i=t");
        Check.due("26: twelve SONGS", z.strong(1, 400, 5), -z.strong(10, 400, 5));
    }

    /** What other calls left in thought does not matter. */
    private static void strongBehindOdds() {
        int due = unlike("w+c*c", 50, 3) - unlike("p=0|t", 50, 3);
        EightWorlds x = Check.withSongs(30, 20, 10);
        Check.law(x, "w+c*c");
        Check.law(x, "p=0|t");
        x.world(10, 9999999, 1);
        x.world(2, 9999999, 1);
        Check.counts(x, 0, 0, 99, 7);
        Check.keep(x, 1, 1, 1, 1);
        for (int w = 0; w < 2; w++) {
            int odds = x.odds(w, 1, 6, 1);
            Check.due("SHOW 1, NOTHING 0, behind odds", x.strong(1, 50, 3), due);
            Check.due("SHOW 1, NOTHING 0, again", x.strong(1, 50, 3), due);
            Check.due("18: odds behind strong", x.odds(w, 1, 6, 1), odds);
        }
        Check.due("(in thought)", x.count(2), 2);
        Check.due("(in thought)", x.of(0, 0), 0);
    }

    private static void strongOfSixLaws() {
        String[] laws = {"w", "w+c*c", "p+1", "i=t%3", "k+i", "1"};
        EightWorlds x = Check.withSongs(30, 20, 10);
        int[] unlike = new int[6];
        for (int law = 0; law < 6; law++) {
            Check.law(x, laws[law]);
            unlike[law] = unlike(laws[law], 30, 77);
        }
        for (int one = 0; one < 6; one++) {
            for (int other = 0; other < 6; other++) {
                int due = one == other ? EightWorlds.VOID : unlike[one] - unlike[other];
                Check.due("10 times the one and the other, " + one + " " + other, x.strong(10 * one + other, 30, 77), due);
            }
        }
    }

    private static void lines() {
        Check.due("27: no SONGS", worlds().line(1), 0);
        Check.due("27: one SONG", worlds(1).line(1), 0);
        EightWorlds x = worlds(twelve(0));
        Check.due("27: alike", x.line(1), 0);
        for (int s = 0; s < 12; s++) {
            x.crate(1, s, s + 1);
        }
        Check.due("27: the other way round", x.line(1), 2 * (11 + 9 + 7 + 5 + 3 + 1));
        Check.due("27: the other way round", x.line(10), 72);
        EightWorlds y = worlds(1, 1);
        y.world(2, 9990000, 1);
        y.world(0, 0, 1);
        Check.due("PLACES (in order), though upside down", y.line(2), 0);
        Check.due("PLACES (in order), though not shown", y.line(23), 0);
        y.crate(2, 1, 1);
        Check.due("PLACES (in order)", y.line(20), 2);
        Check.due("PLACES (in order)", y.line(32), 2);
    }

    private static void linesOfNine() {
        EightWorlds x = Check.withSongs(1, 1, 1, 1, 1);
        Check.law(x, "1");
        for (int w = 0; w < 9; w++) {
            x.world(w % 3, 0, w);
            Check.counts(x, w, w * 7 % 5, w * w % 11, w * 3 % 4, w, 5);
        }
        int[][] places = new int[9][5];
        for (int w = 0; w < 9; w++) {
            for (int s = 0; s < 5; s++) {
                places[w][s] = x.of(w, 200 + s);
            }
        }
        for (int v = 0; v < 9; v++) {
            for (int w = 0; w < 9; w++) {
                int due = v == w ? EightWorlds.BAD : far(places[v], places[w]);
                Check.due("10 times the one and the other, " + v + " " + w, x.line(10 * v + w), due);
            }
        }
    }

    /** AGAINST chance by this test's own shuffles. */
    private static int near(int[] first, int[] second, int seed, int n) {
        int[] places = second.clone();
        int z = seed, near = 0, line = far(first, second);
        for (int i = 0; i < n; i++) {
            for (int s = places.length - 1; s >= 1; s--) {
                z = z * 1103515245 + 12345;
                int j = (z >>> 8) % (s + 1), was = places[s];
                places[s] = places[j];
                places[j] = was;
            }
            near += far(first, places) <= line ? 1 : 0;
        }
        return near;
    }

    private static int far(int[] first, int[] second) {
        int sum = 0;
        for (int s = 0; s < first.length; s++) {
            sum += Math.abs(first[s] - second[s]);
        }
        return sum;
    }

    private static void against() {
        EightWorlds x = Check.withSongs(1, 1, 1, 1, 1);
        Check.law(x, "1");
        for (int w = 0; w < 9; w++) {
            x.world(1, 0, w);
        }
        Check.counts(x, 4, 9, 7, 8, 1, 2);
        Check.counts(x, 5, 7, 9, 1, 2, 8);
        int[] first = {0, 2, 1, 4, 3}, second = {2, 0, 4, 3, 1};
        for (int n : new int[] {1, 2, 49, 50}) {
            for (int seed : new int[] {0, 1, -1, MIN, MAX, 4711}) {
                Check.due("n (1 .. 50) shuffles by a SEED " + seed, x.against(45, seed, n), near(first, second, seed, n));
                Check.due("of the second one's places, " + seed, x.against(54, seed, n), near(second, first, seed, n));
            }
        }
        int[] alike = {0, 1, 2, 3, 4};
        Check.due("as near or nearer: alike", x.against(8, 3, 50), near(alike, alike, 3, 50));
        Check.due("28: THE LIST stays", x.of(5, 200), 2);
    }

    private static void againstOfFew() {
        Check.due("28: no SONGS", worlds().against(1, MAX, 50), 50);
        Check.due("28: one SONG", worlds(1).against(10, MIN, 1), 1);
        EightWorlds x = worlds(1, 1);
        int[] places = {0, 1}, other = {1, 0};
        for (int n = 1; n <= 50; n += 7) {
            Check.due("down to the second", x.against(1, n, n), near(places, places, n, n));
        }
        x.crate(1, 1, 5);
        Check.due("as near as may be", x.against(1, 9, 50), 50);
        Check.due("as near as may be", near(places, other, 9, 50), 50);
        EightWorlds y = worlds(twelve(0));
        int[] all = new int[12], turned = new int[12];
        for (int s = 0; s < 12; s++) {
            y.crate(1, s, s / 2 + 1);
            all[s] = s;
            turned[s] = 10 - s / 2 * 2 + s % 2;
        }
        Check.due("from the last SONG of twelve", y.against(1, 5, 50), near(all, turned, 5, 50));
    }

    private static void changesOfOneKind() {
        EightWorlds x = worlds(5, 6);
        Check.due("STATE: none", x.undo(), STATE);
        Check.due("STATE: none", x.redo(), STATE);
        x.worth(1, 0);
        Check.due("30: STATE behind a change", x.redo(), STATE);
        Check.due("29: how many may still be", x.undo(), 0);
        Check.due("STATE: none any more", x.undo(), STATE);
        Check.due("as it was ahead", x.weight(0, 1), 6);
        Check.due("30: how many may still be", x.redo(), 0);
        Check.due("STATE: none any more", x.redo(), STATE);
        Check.due("as it was behind", x.weight(0, 1), 0);
    }

    /** Tells the i-th change, of one of eleven numbers: WORTHS 0 .. 2, NOTHING of WORLDS, their COUNTS. */
    private static void change(EightWorlds x, int number, int i) {
        if (number < 3) {
            x.worth(number, 300 + i);
        } else if (number < 5) {
            x.nothing(number - 3, i);
        } else {
            x.crate((number - 5) / 3, (number - 5) % 3, i);
        }
    }

    /** One of the eleven numbers; telling the same number asks for NOTHING and changes none. */
    private static void stands(EightWorlds x, String what, int number, int due) {
        int got = number < 3 ? x.weight(0, number) : number < 5 ? x.nothing(number - 3, due)
            : x.of((number - 5) / 3, 100 + (number - 5) % 3);
        Check.due(what + ", number " + number, got, due);
    }

    /** Forty-three changes of all kinds, to SONGS and WORLDS in turn: the oldest three are kept no more. */
    private static void changesOfAllKinds() {
        EightWorlds x = worlds(100, 200, 300);
        int[] now = {100, 200, 300, 0, 0, 0, 0, 0, 0, 0, 0}, ahead = new int[43], behind = new int[43];
        for (int i = 0; i < 43; i++) {
            int number = i * 7 % 11;
            change(x, number, i + 1);
            ahead[i] = now[number];
            now[number] = number < 3 ? 301 + i : number < 5 ? i + 1 : now[number] + i + 1;
            behind[i] = now[number];
        }
        Check.due("40 at most are kept", x.count(4), 40);
        for (int i = 42; i >= 3; i--) {
            Check.due("29: the latest first", x.undo(), i - 3);
            stands(x, "29: as it was ahead of " + i, i * 7 % 11, ahead[i]);
            now[i * 7 % 11] = ahead[i];
        }
        Check.due("29: STATE", x.undo(), STATE);
        for (int number = 0; number < 11; number++) {
            stands(x, "29: as all were behind the third", number, now[number]);
        }
        for (int i = 3; i < 43; i++) {
            Check.due("30: DONE AGAIN", x.redo(), 42 - i);
            stands(x, "30: as it was behind " + i, i * 7 % 11, behind[i]);
            now[i * 7 % 11] = behind[i];
        }
        Check.due("30: STATE", x.redo(), STATE);
        for (int number = 0; number < 11; number++) {
            stands(x, "30: as all were at last", number, now[number]);
        }
        Check.due("40: all of them", x.count(4), 40);
    }

    /** KEEPINGS between CRATES: undone to the COUNT as it was ahead, done again to the one behind. */
    private static void cratesAmongKeepings() {
        EightWorlds x = worlds(1, 1);
        x.crate(0, 1, 10);
        Check.keep(x, 0, 1, 1);
        x.crate(0, 1, 5);
        Check.keep(x, 0, 1);
        Check.due("its COUNT then", x.of(0, 101), 18);
        int[] due = {12, 0};
        for (int count : due) {
            x.undo();
            Check.due("a CRATE: COUNT as it was ahead", x.of(0, 101), count);
        }
        Check.keep(x, 0, 1);
        x.redo();
        Check.due("a CRATE: COUNT as it was behind", x.of(0, 101), 10);
        x.redo();
        Check.due("a CRATE: COUNT as it was behind", x.of(0, 101), 17);
        Check.due("KEPT as it is", x.of(0, 1), 4);
    }

    private static void fortyAreKept() {
        for (int n : new int[] {1, 39, 40, 41, 80}) {
            EightWorlds x = worlds(0);
            for (int v = 1; v <= n; v++) {
                x.nothing(1, v);
            }
            int kept = Math.min(n, 40);
            Check.due("40 at most are kept, of " + n, x.count(4), kept);
            for (int left = kept - 1; left >= 0; left--) {
                Check.due("29: how many may still be", x.undo(), left);
            }
            Check.due("29: STATE", x.undo(), STATE);
            Check.due("as it was ahead of the first that is kept", x.nothing(1, n - kept), n - kept);
            Check.due("30: that was no change", x.redo(), kept - 1);
            x.nothing(0, 1);
            Check.due("another came behind", x.redo(), STATE);
            Check.due("40: the two", x.count(4), 2);
        }
    }

    private static void whatIsNoChange() {
        EightWorlds x = worlds(5, 6);
        x.worth(0, 5);
        x.nothing(0, 0);
        Check.due("telling the same number is none", x.count(4), 0);
        raise(x, 0, 0, 99999);
        int changes = x.count(4);
        for (int i = 0; i < 45; i++) {
            x.worth(0, 5);
            x.nothing(1, 0);
            x.crate(0, 0, 1 + i);
        }
        Check.due("telling the same number is none", x.count(4), changes);
        Check.due("29: the last that is one", x.undo(), changes - 1);
        Check.due("29: the COUNT as it was ahead", x.of(0, 100), 99990);
    }

    /** What comes between undo and redo and is no change; then one of each kind that is. */
    private static void whatEndsNoRedo() {
        for (int kind = 0; kind < 4; kind++) {
            EightWorlds x = worlds(5, 6);
            x.worth(0, 50);
            x.nothing(0, 60);
            x.undo();
            x.worth(0, 50);
            x.nothing(0, 0);
            x.worth(0, 1000);
            x.crate(0, 0, 0);
            x.come(0, 9);
            Check.keep(x, 0, 1);
            x.shop(0, 7);
            x.song(9);
            Check.law(x, "c");
            x.world(11, 5, 5);
            x.body(0);
            if (kind == 0) {
                Check.due("as long as no other came behind", x.redo(), 0);
                Check.due("30: NOTHING is as it was behind", x.nothing(0, 60), 60);
                continue;
            }
            if (kind == 1) {
                x.worth(2, 10);
            } else if (kind == 2) {
                x.nothing(2, 6);
            } else {
                x.crate(2, 0, 1);
            }
            Check.due("another came behind, " + kind, x.redo(), STATE);
            Check.due("30: STATE changes nothing", x.count(4), 2);
            Check.due("29: the other one", x.undo(), 1);
            Check.due("29: the first one", x.undo(), 0);
            Check.due("29: the first one", x.weight(0, 0), 5);
        }
    }

    private interface Asking {
        long of(EightWorlds x);
    }

    private static EightWorlds some() {
        EightWorlds x = worlds(10, 20, 30);
        x.come(0, 20);
        x.come(1, 20);
        x.shop(0, 2);
        x.worth(0, 11);
        x.nothing(1, 5);
        x.undo();
        Check.law(x, "c+1");
        Check.type(x, "w+7");
        x.body(7);
        x.keep(1, 0);
        x.row(0, 0, 5);
        x.act(0, 3, 9);
        return x;
    }

    /** Calls that ask alone: an object that was asked and one that was not answer alike behind it. */
    private static void askingChangesNothing() {
        Asking[] all = {x -> x.of(0, 4), x -> x.of(1, 301), x -> x.weight(1, 2), x -> x.led(0, 3), x -> x.unequal(0),
            x -> x.unlike(10), x -> x.luck(0, -1), x -> x.right(1), x -> x.guess(3, 1), x -> x.odds(1, 2, 6, 0),
            x -> x.odds(0, 0, 4, 1), x -> x.after(1), x -> x.chart(1, 1), x -> x.found(0, 1), x -> x.house(1, 5, 2, 3),
            x -> x.said(0, -1), x -> x.said(1, 1), x -> x.strong(10, 400, 3), x -> x.line(1), x -> x.against(1, 7, 50),
            x -> x.trace(3), x -> x.element(0, 2), x -> x.taken(1, 0), x -> x.count(6)};
        java.util.List<Long> due = Answers.of(some());
        for (int i = 0; i < all.length; i++) {
            EightWorlds x = some();
            long once = all[i].of(x), twice = all[i].of(x);
            Check.due("asked twice, " + i, twice, once);
            Check.holds("what is asked changes nothing, " + i, Answers.of(x).equals(due));
        }
    }
}
