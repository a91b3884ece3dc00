/** What every test uses: it counts wrong answers and ends the test with exit code 1 if there were any. */
final class Check {
    private static int asked = 0;
    private static int wrong = 0;

    private Check() {
    }

    /** One answer and the one that is due. */
    static void due(String call, long got, long want) {
        asked++;
        if (got != want) {
            wrong++;
            if (wrong <= 40) {
                System.out.println(call + " answered " + got + ", due is " + want);
            }
        }
    }

    static void holds(String what, boolean so) {
        due(what, so ? 1 : 0, 1);
    }

    static boolean allRight() {
        return wrong == 0;
    }

    static void end(String test) {
        System.out.println(test + ": " + asked + " answers, " + wrong + " wrong");
        if (wrong != 0) {
            System.exit(1);
        }
    }

    /** Feeds a text to THE TAPE, four bytes a call. */
    static void type(EightWorlds x, String text) {
        for (int at = 0; at < text.length(); at += 4) {
            int n = Math.min(4, text.length() - at);
            int v = 0;
            for (int i = 0; i < n; i++) {
                v |= (text.charAt(at + i) & 255) << (8 * i);
            }
            x.feed(n, v);
        }
    }

    /** What law() answers to a text. */
    static int law(EightWorlds x, String text) {
        type(x, text);
        return x.law();
    }

    /** A new object with SONGS of these WORTHS. */
    static EightWorlds withSongs(int... worths) {
        EightWorlds x = new EightWorlds();
        for (int worth : worths) {
            x.song(worth);
        }
        return x;
    }

    /** Gives SONGS of a WORLD their COUNTS by CRATES. */
    static void counts(EightWorlds x, int world, int... counts) {
        for (int s = 0; s < counts.length; s++) {
            if (counts[s] > 0) {
                x.crate(world, s, counts[s]);
            }
        }
    }

    /** Lets people come into a WORLD who keep these SONGS (-1: none), by a ROW on SHELF 5. */
    static void keep(EightWorlds x, int world, int... songs) {
        x.row(5, 0, songs.length);
        for (int i = 0; i < songs.length; i++) {
            x.put(5, i, songs[i]);
        }
        x.keepings(world, 5, 0, songs.length);
    }
}
