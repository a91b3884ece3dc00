import java.util.Random;

/** Long runs of calls of all kinds, right and wrong ones, against PlainWorlds; the runs are always the same. */
public final class LongRunsTest {
    private static final int RUNS = 450, CALLS = 512;
    /** A text of 120 bytes and its law(): the most that one turn may need. */
    private static final int MOST_CALLS_OF_A_TURN = 31;

    private final Random random;
    private final EightWorlds x = new EightWorlds();
    private final PlainWorlds plain = new PlainWorlds();
    private final int mostSongs;
    private final int run;
    private int used = 0;

    private LongRunsTest(int run) {
        this.run = run;
        random = new Random(run);
        mostSongs = run % 3 == 0 ? 4 : run % 3 == 1 ? 6 : 12;
    }

    public static void main(String[] args) {
        for (int i = 0; i < 20000; i++) {
            faults(new Random(1000 + i));
        }
        for (int run = 0; run < RUNS && Check.allRight(); run++) {
            new LongRunsTest(run).goOn();
        }
        for (int i = 0; i < 40 && Check.allRight(); i++) {
            manyChanges(new Random(500 + i));
        }
        for (int i = 0; i < 12; i++) {
            farOdds(new Random(i), 1 + i % 4);
        }
        Check.end("LongRunsTest");
    }

    /** Texts that are mostly right, and some with a sign put wrong. */
    private static void faults(Random random) {
        String text = Texts.made(random);
        int fault = PlainWorlds.fault(text);
        Check.due("fault of " + text, Check.law(new EightWorlds(), text), fault < 0 ? 0 : -100 - fault);
        if (fault >= 0) {
            return;
        }
        EightWorlds x = new EightWorlds();
        int worth = random.nextInt(1000);
        x.song(worth);
        Check.law(x, text);
        x.world(1, 0, 0);
        int crate = random.nextInt(9999) + 1;
        x.crate(0, 0, crate);
        Check.due("weight by " + text, x.weight(0, 0), PlainWorlds.weigh(text, worth, crate, 0, 1, 0, 0, 0));
    }

    /** As many more as may be told, and all that may be kept, where none weighs 0. */
    private static void farOdds(Random random, int songs) {
        EightWorlds x = new EightWorlds();
        PlainWorlds plain = new PlainWorlds();
        for (int s = 0; s < songs; s++) {
            int worth = 1 + random.nextInt(999);
            Check.due("song", x.song(worth), plain.song(worth));
        }
        for (char sign : "w+c*c*9+k+(n-p)*t".toCharArray()) {
            Check.due("feed", x.feed(1, sign), plain.feed(1, sign));
        }
        Check.due("law", x.law(), plain.law());
        int ls = random.nextInt(3), un = 30000 + random.nextInt(2) * 100, seed = random.nextInt();
        Check.due("world", x.world(ls, un, seed), plain.world(ls, un, seed));
        Check.due("come", x.come(0, 2), plain.come(0, 2));
        for (int m = 5; m <= 6; m++) {
            for (int what = 0; what < 2; what++) {
                int song = random.nextInt(songs);
                Check.due("odds of " + m, x.odds(0, song, m, what), plain.odds(0, song, m, what));
            }
        }
    }

    /** Changes of few numbers, so that many tell the same one and COUNTS come to the most. */
    private static void manyChanges(Random random) {
        EightWorlds x = new EightWorlds();
        PlainWorlds plain = new PlainWorlds();
        Check.due("song", x.song(1), plain.song(1));
        Check.due("song", x.song(2), plain.song(2));
        Check.due("feed", x.feed(1, 'w'), plain.feed(1, 'w'));
        Check.due("law", x.law(), plain.law());
        Check.due("world", x.world(1, 3, 4), plain.world(1, 3, 4));
        // three calls each
        for (int call = 0; call < 160; call++) {
            oneChange(random, x, plain);
            int song = random.nextInt(2);
            Check.due("count(4)", x.count(4), plain.count(4));
            Check.due("of", x.of(0, 100 + song), plain.of(0, 100 + song));
        }
    }

    private static void oneChange(Random random, EightWorlds x, PlainWorlds plain) {
        int song = random.nextInt(8) / 7, v = random.nextInt(2);
        switch (random.nextInt(8)) {
            case 0:
                Check.due("worth", x.worth(song, v), plain.worth(song, v));
                break;
            case 1:
                Check.due("nothing", x.nothing(0, v), plain.nothing(0, v));
                break;
            case 2:
                Check.due("come", x.come(0, 1), plain.come(0, 1));
                break;
            case 3:
                Check.due("undo", x.undo(), plain.undo());
                break;
            case 4:
                Check.due("redo", x.redo(), plain.redo());
                break;
            default:
                int m = 9999 - random.nextInt(3);
                Check.due("crate", x.crate(0, song, m), plain.crate(0, song, m));
                break;
        }
    }

    private void goOn() {
        for (int call = 0; used <= CALLS - MOST_CALLS_OF_A_TURN; call++) {
            if (call < 8 && run % 4 != 0) {
                due("song", 2, 0, 0, 0);
            } else if (call < 24 && run % 4 != 0) {
                due(call % 2 == 0 ? "text" : call % 4 == 1 ? "world" : "crate", 5, 0, 0, 0);
                call += 6;
            } else {
                oneCall();
            }
        }
    }

    private int number(int most) {
        return random.nextInt(40) == 0 ? wild() : random.nextInt(most + 1);
    }

    private int wild() {
        int[] all = {-1, -2, Integer.MIN_VALUE, Integer.MAX_VALUE, 12, 9, 60, 61, 1000, 10000, random.nextInt()};
        return all[random.nextInt(all.length)];
    }

    private int world() {
        return number(Math.max(0, plain.count(2) - 1));
    }

    private int aSong() {
        return number(Math.max(0, plain.count(0) - 1));
    }

    private int aLaw() {
        return number(Math.max(0, plain.count(1) - 1));
    }

    private void oneCall() {
        String[] all = {"song", "worth", "text", "feed", "world", "nothing", "of", "of", "weight", "weight", "come",
            "come", "keepings", "led", "unequal", "unlike", "luck", "right", "guess", "odds", "after", "shop",
            "chart", "crate", "found", "house", "said", "strong", "line", "against", "undo", "redo", "count"};
        due(all[random.nextInt(all.length)], 0, 0, 0, 0);
    }

    private void due(String call, int a, int b, int c, int d) {
        long[] both = asked(call);
        used++;
        Check.due("run " + run + ": " + call, both[0], both[1]);
    }

    private long[] asked(String call) {
        int a, b, c, d;
        switch (call) {
            case "song":
                if (plain.count(0) >= mostSongs && mostSongs < 12) {
                    return two(0, 0);
                }
                a = random.nextInt(3) == 0 ? random.nextInt(3) * 100 : number(999);
                return two(x.song(a), plain.song(a));
            case "worth":
                a = aSong();
                b = random.nextInt(3) == 0 ? random.nextInt(3) * 100 : number(999);
                return two(x.worth(a, b), plain.worth(a, b));
            case "text":
                return text();
            case "feed":
                a = number(5);
                b = random.nextInt();
                return two(x.feed(a, b), plain.feed(a, b));
            case "world":
                a = aLaw() * 10 + number(2);
                b = random.nextInt(4) == 0 ? number(10000100) : random.nextInt(30) * 10000 + random.nextInt(300);
                c = random.nextInt();
                return two(x.world(a, b, c), plain.world(a, b, c));
            case "nothing":
                a = world();
                b = random.nextBoolean() ? number(9999) : random.nextInt(3);
                return two(x.nothing(a, b), plain.nothing(a, b));
            case "of":
                a = world();
                b = random.nextInt(3) == 0 ? number(5) : random.nextInt(6) * 100 + aSong();
                return two(x.of(a, b), plain.of(a, b));
            case "weight":
                a = world();
                b = aSong();
                return two(x.weight(a, b), plain.weight(a, b));
            case "come":
                a = world();
                b = random.nextBoolean() ? random.nextInt(5) : number(20);
                return two(x.come(a, b), plain.come(a, b));
            case "keepings":
                return keepings();
            case "led":
                a = world();
                b = number(30);
                return two(x.led(a, b), plain.led(a, b));
            default:
                return askedMore(call);
        }
    }

    private long[] askedMore(String call) {
        int a, b, c, d;
        switch (call) {
            case "unequal":
                a = world();
                return two(x.unequal(a), plain.unequal(a));
            case "unlike":
                a = world() * 10 + world();
                return two(x.unlike(a), plain.unlike(a));
            case "luck":
                a = aLaw();
                b = aSong() - random.nextInt(2);
                return two(x.luck(a, b), plain.luck(a, b));
            case "right":
                a = world();
                return two(x.right(a), plain.right(a));
            case "guess":
                a = number((1 << plain.count(2)) - 1);
                b = number(1);
                return two(x.guess(a, b), plain.guess(a, b));
            case "odds":
                a = world();
                b = aSong();
                c = random.nextInt(20) == 0 ? number(7) : random.nextInt(4);
                d = number(1);
                return two(x.odds(a, b, c, d), plain.odds(a, b, c, d));
            case "after":
                a = world();
                return two(x.after(a), plain.after(a));
            case "shop":
                a = world();
                b = number(9);
                return two(x.shop(a, b), plain.shop(a, b));
            case "chart":
                a = aSong();
                b = number(1);
                return two(x.chart(a, b), plain.chart(a, b));
            case "crate":
                a = world();
                b = aSong();
                c = random.nextInt(4) == 0 ? number(9999) : random.nextInt(20);
                return two(x.crate(a, b, c), plain.crate(a, b, c));
            default:
                return askedLast(call);
        }
    }

    private long[] askedLast(String call) {
        int a, b, c, d;
        switch (call) {
            case "found":
                a = world();
                b = number(1);
                return two(x.found(a, b), plain.found(a, b));
            case "house":
                a = world();
                b = number((1 << plain.count(0)) - 1);
                c = number(Math.max(1, plain.count(0)));
                d = number(3);
                return two(x.house(a, b, c, d), plain.house(a, b, c, d));
            case "said":
                a = aLaw();
                b = random.nextBoolean() && (plain.count(0) < 6 || random.nextInt(20) == 0) ? -1 : world();
                return two(x.said(a, b), plain.said(a, b));
            case "strong":
                a = aLaw() * 10 + aLaw();
                b = random.nextInt(10) == 0 ? number(30) : random.nextInt(6);
                c = random.nextInt();
                return two(x.strong(a, b, c), plain.strong(a, b, c));
            case "line":
                a = world() * 10 + world();
                return two(x.line(a), plain.line(a));
            case "against":
                a = world() * 10 + world();
                b = random.nextInt();
                c = number(51);
                return two(x.against(a, b, c), plain.against(a, b, c));
            case "undo":
                return two(x.undo(), plain.undo());
            case "redo":
                return two(x.redo(), plain.redo());
            default:
                a = random.nextInt(5);
                return two(x.count(a), plain.count(a));
        }
    }

    private long[] text() {
        String text = Texts.made(random);
        Check.type(x, text);
        used += (text.length() + 3) / 4;
        for (int at = 0; at < text.length(); at += 4) {
            int n = Math.min(4, text.length() - at), v = 0;
            for (int i = 0; i < n; i++) {
                v |= (text.charAt(at + i) & 255) << (8 * i);
            }
            plain.feed(n, v);
        }
        return two(x.law(), plain.law());
    }

    private long[] keepings() {
        int n = random.nextInt(12), a = world(), i = random.nextInt(20) == 0 ? wild() : random.nextInt(n + 1);
        int many = random.nextInt(20) == 0 ? number(61) : random.nextInt(12);
        byte[] row = new byte[n];
        used += n + 2;
        x.row(0, 0, n);
        for (int at = 0; at < n; at++) {
            row[at] = (byte) (random.nextInt(15) == 0 ? random.nextInt() : random.nextInt(plain.count(0) + 1) - 1);
            x.put(0, at, row[at]);
        }
        if (random.nextInt(10) == 0) {
            x.keep(0, -1);
            row = null;
        }
        return two(x.keepings(a, 0, i, many), plain.keepings(a, row, i, many));
    }

    private static long[] two(long a, long b) {
        return new long[] {a, b};
    }
}
