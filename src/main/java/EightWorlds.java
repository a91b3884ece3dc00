import java.util.Arrays;

/**
 * Eight worlds of one song: people come one by one into worlds that share songs and nothing else,
 * see a list, and keep a song by laws told as texts. The promises stand in ../shared/DOC.md.
 */
public final class EightWorlds {
    public static final int BAD = -1, NOT = -2, FULL = -3, BIG = -4, STATE = -5, VOID = -2000000000;

    private static final int NOTHING_THERE = -11, OTHER_KIND = -12, NO_PLACE = -13, SIZE_BELOW = -14;
    private static final long NO_ELEMENT = -9223372036854775808L;

    private static final int MOST_SONGS = 12, MOST_LAWS = 6, MOST_WORLDS = 9, MOST_SHELVES = 6;
    private static final int MOST_WORTH = 999, MOST_WEIGHT = 9999, MOST_COUNT = 99999;
    private static final int MOST_UNTIL = 999, MOST_SHOP = 9, MOST_COPIES = 9999;
    private static final int MOST_COME = 200, MOST_PEOPLE = 400, MOST_SHUFFLES = 50;
    private static final int MOST_LOGGED = 200, MOST_ELEMENTS = 60;
    private static final int MOST_ODDS_SONGS = 4, MOST_ORDER_SONGS = 6;

    private final Songs songs = new Songs();
    private final Tape tape = new Tape();
    private final Law[] laws = new Law[MOST_LAWS];
    private int lawCount;
    private final World[] worlds = new World[MOST_WORLDS];
    private int worldCount;
    private final Changes changes = new Changes();
    private final Acts acts = new Acts();
    private final Shelf[] shelves = new Shelf[MOST_SHELVES];

    // Worlds and rows that calls work in and that are no part of what the object holds.
    private final World thought = new World(songs);
    private final World otherThought = new World(songs);
    private final Odds chances = new Odds(songs, thought);
    private final int[] seen = new int[Law.NAMES];
    private final int[] sums = new int[MOST_SONGS];
    private final int[] ranks = new int[MOST_SONGS];
    private final int[] orderWeights = new int[MOST_ORDER_SONGS * MOST_ORDER_SONGS];

    public EightWorlds() {
        for (int s = 0; s < MOST_SHELVES; s++) {
            shelves[s] = new Shelf();
        }
    }

    // ---- songs, laws, worlds

    public int song(int worth) {
        if (worth < 0 || worth > MOST_WORTH) {
            return BAD;
        }
        if (songs.size >= MOST_SONGS) {
            return FULL;
        }
        songs.worths[songs.size] = worth;
        songs.size++;
        return songs.size - 1;
    }

    public int worth(int song, int v) {
        if (!songs.has(song) || v < 0 || v > MOST_WORTH) {
            return BAD;
        }
        int was = songs.worths[song];
        songs.worths[song] = v;
        changes.note(Changes.NONE, song, was, v);
        return was;
    }

    public int feed(int n, int v) {
        if (n < 1 || n > 4) {
            return BAD;
        }
        if (tape.length + n > Tape.MOST_BYTES) {
            return FULL;
        }
        for (int i = 0; i < n; i++) {
            tape.write((v >>> (8 * i)) & 255);
        }
        return tape.length;
    }

    public int law() {
        if (lawCount >= MOST_LAWS) {
            return FULL;
        }
        int fault = tape.read();
        if (fault >= 0) {
            return -100 - fault;
        }
        laws[lawCount] = new Law(tape.codeRead());
        lawCount++;
        return lawCount - 1;
    }

    public int world(int ls, int un, int seed) {
        if (ls < 0 || un < 0) {
            return BAD;
        }
        int show = ls % 10, until = un / 10000, nothing = un % 10000;
        Law law = lawOf(ls / 10);
        if (law == null || show > World.UPSIDE_DOWN || until > MOST_UNTIL) {
            return BAD;
        }
        if (worldCount >= MOST_WORLDS) {
            return FULL;
        }
        World w = new World(songs);
        w.begin(law, seed);
        w.lawNumber = ls / 10;
        w.show = show;
        w.until = until;
        w.nothing = nothing;
        worlds[worldCount] = w;
        worldCount++;
        return worldCount - 1;
    }

    public int nothing(int world, int v) {
        World w = worldOf(world);
        if (w == null || v < 0 || v > MOST_WEIGHT) {
            return BAD;
        }
        int was = w.nothing;
        w.nothing = v;
        changes.note(world, Changes.NONE, was, v);
        return was;
    }

    public int of(int world, int what) {
        World w = worldOf(world);
        if (w == null || what < 0) {
            return BAD;
        }
        if (what >= 100) {
            return songs.has(what % 100) ? ofSong(w, what / 100, what % 100) : BAD;
        }
        switch (what) {
            case 0: return w.came;
            case 1: return w.kept;
            case 2: return w.lawNumber;
            case 3: return w.show;
            case 4: return w.first();
            default: return BAD;
        }
    }

    private static int ofSong(World w, int what, int song) {
        w.arrange();
        switch (what) {
            case 1: return w.counts[song];
            case 2: return w.places[song];
            case 3: return w.placeSeen(song);
            case 4: return w.share(song);
            default: return BAD;
        }
    }

    public int weight(int world, int song) {
        World w = worldOf(world);
        if (w == null || !songs.has(song)) {
            return BAD;
        }
        w.arrange();
        return w.weigh(song);
    }

    public int come(int world, int n) {
        World w = worldOf(world);
        if (w == null || n < 1 || n > MOST_COME) {
            return BAD;
        }
        return w.manyCome(n);
    }

    public int keepings(int world, int shelf, int i, int n) {
        World w = worldOf(world);
        Shelf row = shelfOf(shelf);
        if (w == null || row == null || n < 1 || n > MOST_ELEMENTS) {
            return BAD;
        }
        if (row.holds == Shelf.EMPTY) {
            return 0;
        }
        if (row.holds != Shelf.ROW || row.sort != Shelf.BYTES) {
            return OTHER_KIND;
        }
        int came = 0;
        for (int at = i; came < n && row.has(at); at++) {
            int song = (int) row.cells[at];
            if (song != -1 && !songs.has(song)) {
                return came;
            }
            w.receive(song);
            came++;
        }
        return came;
    }

    public int led(int world, int k) {
        World w = worldOf(world);
        if (w == null || k < 0 || k >= w.logged()) {
            return BAD;
        }
        return w.log[k];
    }

    private Law lawOf(int number) {
        return number >= 0 && number < lawCount && number < MOST_LAWS ? laws[number] : null;
    }

    private World worldOf(int number) {
        return number >= 0 && number < worldCount && number < MOST_WORLDS ? worlds[number] : null;
    }

    private Shelf shelfOf(int number) {
        return number >= 0 && number < MOST_SHELVES ? shelves[number] : null;
    }

    // ---- unlike, luck, guesses

    public int unequal(int world) {
        World w = worldOf(world);
        if (w == null) {
            return BAD;
        }
        if (songs.size == 0) {
            return 0;
        }
        int sum = 0;
        for (int a = 0; a < songs.size; a++) {
            for (int b = a + 1; b < songs.size; b++) {
                sum += Math.abs(w.share(a) - w.share(b));
            }
        }
        return sum / songs.size;
    }

    public int unlike(int vw) {
        World v = worldOf(vw / 10), w = worldOf(vw % 10);
        if (v == null || w == null || v == w) {
            return BAD;
        }
        return apart(v, w);
    }

    private int apart(World v, World w) {
        int sum = 0;
        for (int s = 0; s < songs.size; s++) {
            sum += Math.abs(v.share(s) - w.share(s));
        }
        return sum / 2;
    }

    public int luck(int law, int song) {
        if (lawOf(law) == null || song < -1 || song >= songs.size) {
            return BAD;
        }
        if (songs.size == 0) {
            return NOT;
        }
        if (song >= 0) {
            return luckOf(law, song);
        }
        int sum = 0;
        for (int s = 0; s < songs.size; s++) {
            int one = luckOf(law, s);
            if (one == NOT) {
                return NOT;
            }
            sum += one;
        }
        return sum / songs.size;
    }

    private int luckOf(int law, int song) {
        int sum = 0, pairs = 0;
        for (int a = 0; a < worldCount; a++) {
            World v = worldOf(a);
            for (int b = a + 1; b < worldCount; b++) {
                World w = worldOf(b);
                if (v != null && w != null && v.lawNumber == law && w.lawNumber == law) {
                    sum += Math.abs(v.share(song) - w.share(song));
                    pairs++;
                }
            }
        }
        return pairs == 0 ? NOT : sum / pairs;
    }

    public int right(int world) {
        World w = worldOf(world);
        if (w == null) {
            return BAD;
        }
        int same = 0, pairs = 0;
        for (int a = 0; a < songs.size; a++) {
            for (int b = a + 1; b < songs.size; b++) {
                int way = w.way(a, b);
                same += way > 0 ? 1 : 0;
                pairs += way != 0 ? 1 : 0;
            }
        }
        return pairs == 0 ? NOT : same * 1000 / pairs;
    }

    public int guess(int worlds, int what) {
        if (worlds < 0 || worlds >= 1 << worldCount || what < 0 || what > 1) {
            return BAD;
        }
        int hits = 0, pairs = 0;
        for (int a = 0; a < songs.size; a++) {
            for (int b = a + 1; b < songs.size; b++) {
                int same = waysOf(worlds, a, b, 1), other = waysOf(worlds, a, b, -1);
                hits += what == 0 ? same : Math.max(same, other);
                pairs += same + other;
            }
        }
        return pairs == 0 ? NOT : hits * 1000 / pairs;
    }

    /** In how many of the told WORLDS two SONGS go one way (1: as their WORTHS do, -1: the other). */
    private int waysOf(int told, int a, int b, int way) {
        int sum = 0;
        for (int i = 0; i < worldCount; i++) {
            World w = worldOf(i);
            if (w != null && (told >> i & 1) == 1 && w.way(a, b) == way) {
                sum++;
            }
        }
        return sum;
    }

    public int odds(int world, int song, int m, int what) {
        World w = worldOf(world);
        if (w == null || !songs.has(song) || m < 0 || m > Odds.MOST_MORE || what < 0 || what > 1) {
            return BAD;
        }
        if (songs.size > MOST_ODDS_SONGS) {
            return BIG;
        }
        return chances.foretell(w, song, m, what);
    }

    public int after(int world) {
        World w = worldOf(world);
        if (w == null) {
            return BAD;
        }
        if (w.kept == 0) {
            return NOT;
        }
        if (w.kept > MOST_LOGGED) {
            return STATE;
        }
        return w.settled(sums);
    }

    // ---- charts, crates, houses

    public int shop(int world, int v) {
        World w = worldOf(world);
        if (w == null || v < 0 || v > MOST_SHOP) {
            return BAD;
        }
        int was = w.shop;
        w.shop = v;
        return was;
    }

    public int chart(int i, int what) {
        if (!songs.has(i) || what < 0 || what > 1) {
            return BAD;
        }
        for (int s = 0; s < songs.size; s++) {
            sums[s] = toldOf(s);
        }
        World.rank(sums, songs.size, ranks);
        return what == 0 ? ranks[i] : sums[ranks[i]];
    }

    /** What SHOPS tell of a SONG: the sum of their weights times COUNTS. */
    private int toldOf(int song) {
        int sum = 0;
        for (int i = 0; i < worldCount; i++) {
            World w = worldOf(i);
            if (w != null) {
                sum += w.shop * w.counts[song];
            }
        }
        return sum;
    }

    public int crate(int world, int song, int m) {
        World w = worldOf(world);
        if (w == null || !songs.has(song) || m < 1 || m > MOST_COPIES) {
            return BAD;
        }
        int was = w.counts[song];
        w.counts[song] = Math.min(was + m, MOST_COUNT);
        changes.note(world, song, was, w.counts[song]);
        return w.counts[song];
    }

    public int found(int world, int what) {
        World w = worldOf(world);
        if (w == null || what < 0 || what > 1) {
            return BAD;
        }
        int counts = w.allCounts(), worths = songs.allWorths();
        if (counts == 0 || worths == 0) {
            return NOT;
        }
        int best = 0, most = 0;
        for (int s = 0; s < songs.size; s++) {
            int above = w.counts[s] - (int) ((long) counts * songs.worths[s] / worths);
            if (s == 0 || above > most) {
                best = s;
                most = above;
            }
        }
        return what == 0 ? best : most;
    }

    public int house(int world, int songs, int h, int what) {
        World w = worldOf(world);
        int size = this.songs.size;
        if (w == null || songs < 0 || songs >= 1 << size || h < 1 || h > size || what < 0 || what > 3) {
            return VOID;
        }
        int first = w.firstOnes(h);
        int hits = Integer.bitCount(songs & first);
        int chance = Integer.bitCount(songs) * h * 1000 / size;
        switch (what) {
            case 0: return hits;
            case 1: return chance;
            case 2: return hits * 1000 - chance;
            default: return songs & ~first;
        }
    }

    public int said(int law, int world) {
        Law text = lawOf(law);
        World w = worldOf(world);
        if (text == null || (w == null && world != -1)) {
            return BAD;
        }
        if (w != null) {
            return isTrueOf(text, w) ? 1 : 0;
        }
        int size = songs.size;
        if (size > MOST_ORDER_SONGS) {
            return BIG;
        }
        for (int s = 0; s < size; s++) {
            for (int p = 0; p < size; p++) {
                orderWeights[s * MOST_ORDER_SONGS + p] = weightSaid(text, s, p);
            }
        }
        return ordersFrom(orderWeights, size, 0, 0, MOST_WEIGHT);
    }

    private boolean isTrueOf(Law text, World w) {
        w.arrange();
        int ahead = MOST_WEIGHT;
        for (int p = 0; p < songs.size; p++) {
            int own = weightSaid(text, w.order[p], p);
            if (own > ahead) {
                return false;
            }
            ahead = own;
        }
        return true;
    }

    /** WEIGHT of a SONG at a PLACE by a TEXT, as if none had come. */
    private int weightSaid(Law text, int song, int place) {
        Arrays.fill(seen, 0);
        seen[Law.WORTH] = songs.worths[song];
        seen[Law.PLACE] = place;
        seen[Law.SONGS] = songs.size;
        seen[Law.SONG] = song;
        return text.weigh(seen);
    }

    /** How many orders go on from a place, when the SONGS in used stand ahead and the last weighed so much. */
    private static int ordersFrom(int[] weights, int size, int place, int used, int ahead) {
        if (place >= size || place >= MOST_ORDER_SONGS) {
            return 1;
        }
        int sum = 0;
        for (int s = 0; s < size; s++) {
            int own = weights[s * MOST_ORDER_SONGS + place];
            if ((used >> s & 1) == 0 && own <= ahead) {
                sum += ordersFrom(weights, size, place + 1, used | 1 << s, own);
            }
        }
        return sum;
    }

    public int strong(int lm, int n, int seed) {
        Law one = lawOf(lm / 10), other = lawOf(lm % 10);
        if (one == null || other == null || one == other || n < 1 || n > MOST_PEOPLE) {
            return VOID;
        }
        return apartInThought(one, n, seed) - apartInThought(other, n, seed);
    }

    private int apartInThought(Law law, int n, int seed) {
        thought.begin(law, seed);
        otherThought.begin(law, seed + 1);
        thought.manyCome(n);
        otherThought.manyCome(n);
        return apart(thought, otherThought);
    }

    public int line(int vw) {
        World v = worldOf(vw / 10), w = worldOf(vw % 10);
        if (v == null || w == null || v == w) {
            return BAD;
        }
        v.arrange();
        w.arrange();
        return farApart(v.places, w.places);
    }

    public int against(int vw, int seed, int n) {
        World v = worldOf(vw / 10), w = worldOf(vw % 10);
        if (v == null || w == null || v == w || n < 1 || n > MOST_SHUFFLES) {
            return BAD;
        }
        v.arrange();
        w.arrange();
        int far = farApart(v.places, w.places), near = 0, z = seed;
        System.arraycopy(w.places, 0, ranks, 0, songs.size);
        for (int i = 0; i < n; i++) {
            z = shuffle(ranks, songs.size, z);
            if (farApart(v.places, ranks) <= far) {
                near++;
            }
        }
        return near;
    }

    private int farApart(int[] places, int[] others) {
        int sum = 0;
        for (int s = 0; s < songs.size; s++) {
            sum += Math.abs(places[s] - others[s]);
        }
        return sum;
    }

    /** Shuffles the first of a row in place and answers the z that it came to. */
    private static int shuffle(int[] row, int size, int seed) {
        int z = seed;
        for (int s = size - 1; s > 0; s--) {
            z = World.drawn(z);
            int j = (z >>> 8) % (s + 1);
            int was = row[s];
            row[s] = row[j];
            row[j] = was;
        }
        return z;
    }

    public int undo() {
        if (changes.done == 0) {
            return STATE;
        }
        changes.done--;
        apply(changes.done, changes.ahead[changes.done]);
        return changes.done;
    }

    public int redo() {
        if (changes.done >= changes.size) {
            return STATE;
        }
        changes.done++;
        apply(changes.done - 1, changes.behind[changes.done - 1]);
        return changes.size - changes.done;
    }

    /** Puts a number where a change was made. */
    private void apply(int change, int v) {
        World w = worldOf(changes.worlds[change]);
        int song = changes.songs[change];
        if (w == null && songs.has(song)) {
            songs.worths[song] = v;
        } else if (w != null && songs.has(song)) {
            w.counts[song] = v;
        } else if (w != null) {
            w.nothing = v;
        }
    }

    // ---- acts, shelves

    public int body(int kind) {
        if (kind < 0 || kind >= Acts.KINDS) {
            return BAD;
        }
        if (acts.size >= Acts.MOST_BODIES) {
            return FULL;
        }
        acts.kinds[acts.size] = kind;
        acts.size++;
        return acts.size - 1;
    }

    public int act(int body, int act, int x) {
        return acts.perform(body, act, x);
    }

    public int trace(int i) {
        if (i < 0 || i >= acts.ran || i >= Acts.MOST_TRACED) {
            return BAD;
        }
        return acts.traced[i];
    }

    public int keep(int shelf, int body) {
        Shelf s = shelfOf(shelf);
        if (s == null || (body != -1 && !acts.has(body))) {
            return BAD;
        }
        s.holds = body < 0 ? Shelf.EMPTY : Shelf.KEEPING;
        s.body = body;
        return 1;
    }

    public int row(int shelf, int sort, int n) {
        Shelf s = shelfOf(shelf);
        if (s == null || sort < Shelf.BYTES || sort > Shelf.BOOLEANS || n > MOST_ELEMENTS) {
            return BAD;
        }
        if (n < 0) {
            return SIZE_BELOW;
        }
        s.holds = Shelf.ROW;
        s.sort = sort;
        s.size = n;
        Arrays.fill(s.cells, 0L);
        return 1;
    }

    public int put(int shelf, int i, long v) {
        Shelf s = shelfOf(shelf);
        int refusal = refusalOf(s, i);
        if (s == null || refusal != 0) {
            return refusal;
        }
        s.cells[i] = s.lowest(v);
        return 1;
    }

    public long element(int shelf, int i) {
        Shelf s = shelfOf(shelf);
        return s == null || refusalOf(s, i) != 0 ? NO_ELEMENT : s.cells[i];
    }

    /** Why a SHELF has no element i; 0: it has one. */
    private static int refusalOf(Shelf s, int i) {
        if (s == null) {
            return BAD;
        }
        if (s.holds == Shelf.EMPTY) {
            return NOTHING_THERE;
        }
        if (s.holds != Shelf.ROW) {
            return OTHER_KIND;
        }
        return s.has(i) ? 0 : NO_PLACE;
    }

    public int shift(int shelf, int i, int other, int j, int n) {
        Shelf from = shelfOf(shelf), to = shelfOf(other);
        if (from == null || to == null) {
            return BAD;
        }
        if (from.holds == Shelf.EMPTY || to.holds == Shelf.EMPTY) {
            return NOTHING_THERE;
        }
        if (from.holds != Shelf.ROW || to.holds != Shelf.ROW || from.sort != to.sort) {
            return OTHER_KIND;
        }
        if (!from.hasRun(i, n) || !to.hasRun(j, n)) {
            return NO_PLACE;
        }
        System.arraycopy(from.cells, i, to.cells, j, n);
        return n;
    }

    public int taken(int shelf, int k) {
        Shelf s = shelfOf(shelf);
        if (s == null || k < 0 || k >= Acts.KINDS) {
            return BAD;
        }
        if (s.holds == Shelf.EMPTY) {
            return NOTHING_THERE;
        }
        if (s.holds != Shelf.KEEPING || !acts.has(s.body) || !Acts.isUnder(acts.kinds[s.body], k)) {
            return OTHER_KIND;
        }
        return acts.kinds[s.body];
    }

    public int count(int what) {
        switch (what) {
            case 0: return songs.size;
            case 1: return lawCount;
            case 2: return worldCount;
            case 3: return tape.length;
            case 4: return changes.done;
            case 5: return acts.size;
            case 6: return acts.ran;
            default: return BAD;
        }
    }

    /** SONGS and their WORTHS: all that WORLDS share. */
    private static final class Songs {
        final int[] worths = new int[MOST_SONGS];
        int size;

        boolean has(int song) {
            return song >= 0 && song < size && song < MOST_SONGS;
        }

        int allWorths() {
            int sum = 0;
            for (int s = 0; s < size; s++) {
                sum += worths[s];
            }
            return sum;
        }
    }

    /** A TEXT as it is worked out: marks for a stack, each with a number of its own above its low byte. */
    private static final class Law {
        static final int WORTH = 0, COUNT = 1, PLACE = 2, SONGS = 3, CAME = 4, KEPT = 5, SONG = 6, NAMES = 7;
        static final int NUMBER = 0, NAME = 1, FLIP = 2, MINUS = 3, ASK = 4, GIVE = 5;
        static final int OR = 6, AND = 7, LESS = 8, SAME = 9, MORE = 10;
        static final int PLUS = 11, WITHOUT = 12, TIMES = 13, PART = 14, REST = 15;

        // Two cells lie below the first number, so that looking two down is always inside the row.
        private static final int FLOOR = 2, STACK = 64;

        final int[] code;
        private final int[] stack = new int[STACK];

        Law(int[] code) {
            this.code = code;
        }

        /** WEIGHT for what is seen (by NAMES), held within 0 .. 9999. */
        int weigh(int[] seen) {
            int top = FLOOR;
            for (int at = 0; at < code.length; at++) {
                if (top < FLOOR || top >= STACK) {
                    return 0;
                }
                int mark = code[at] & 255, x = code[at] >> 8;
                switch (mark) {
                    case NUMBER:
                        stack[top] = x;
                        top++;
                        break;
                    case NAME:
                        stack[top] = x >= 0 && x < seen.length ? seen[x] : 0;
                        top++;
                        break;
                    case FLIP:
                        stack[top - 1] = stack[top - 1] == 0 ? 1 : 0;
                        break;
                    case MINUS:
                        stack[top - 1] = -stack[top - 1];
                        break;
                    case ASK:
                        top--;
                        // on to the next LINE, which lies ahead
                        at = stack[top] == 0 ? Math.max(at, x - 1) : at;
                        break;
                    case GIVE:
                        return Math.max(0, Math.min(stack[top - 1], MOST_WEIGHT));
                    default:
                        top--;
                        stack[top - 1] = joined(mark, stack[top - 1], stack[top]);
                        break;
                }
            }
            return 0;
        }

        private static int joined(int mark, int a, int b) {
            switch (mark) {
                case OR: return a != 0 || b != 0 ? 1 : 0;
                case AND: return a != 0 && b != 0 ? 1 : 0;
                case LESS: return a < b ? 1 : 0;
                case SAME: return a == b ? 1 : 0;
                case MORE: return a > b ? 1 : 0;
                case PLUS: return a + b;
                case WITHOUT: return a - b;
                case TIMES: return a * b;
                case PART: return b == 0 ? 0 : a / b;
                default: return b == 0 ? 0 : a % b;
            }
        }
    }

    /** THE TAPE, and the reading of it: each read.. goes over one part of a TEXT and writes its marks. */
    private static final class Tape {
        static final int MOST_BYTES = 120;
        private static final int MOST_OPEN = 6;
        // a byte writes one mark at most, and the end of the last LINE one more
        private static final int MOST_MARKS = MOST_BYTES + 1;

        private final int[] bytes = new int[MOST_BYTES];
        int length;
        private final int[] marks = new int[MOST_MARKS];
        private int written;
        private int at;
        private int fault;

        void write(int b) {
            if (length < MOST_BYTES) {
                bytes[length] = b;
                length++;
            }
        }

        /** Reads and empties THE TAPE: its FAULT, or -1. */
        int read() {
            written = 0;
            at = 0;
            fault = -1;
            readLine();
            while (at < length && bytes[at] == ';') {
                at++;
                readLine();
            }
            if (at < length) {
                fail();
            }
            length = 0;
            return fault;
        }

        int[] codeRead() {
            return Arrays.copyOf(marks, written);
        }

        /** The first place that fails is the FAULT; going to the end stops all that reads on. */
        private void fail() {
            if (fault < 0) {
                fault = at;
            }
            at = length;
        }

        private int next() {
            return at < length && at < MOST_BYTES ? bytes[at] : -1;
        }

        private void mark(int mark, int x) {
            if (written < MOST_MARKS) {
                marks[written] = mark | x << 8;
                written++;
            }
        }

        private void readLine() {
            readAny(0);
            if (next() != '?') {
                mark(Law.GIVE, 0);
                return;
            }
            at++;
            int asked = written;
            mark(Law.ASK, 0);
            readAny(0);
            mark(Law.GIVE, 0);
            if (asked < MOST_MARKS) {
                marks[asked] = Law.ASK | written << 8;
            }
        }

        private void readAny(int open) {
            readAll(open);
            while (at < length && bytes[at] == '|') {
                at++;
                readAll(open);
                mark(Law.OR, 0);
            }
        }

        private void readAll(int open) {
            readCompared(open);
            while (at < length && bytes[at] == '&') {
                at++;
                readCompared(open);
                mark(Law.AND, 0);
            }
        }

        private void readCompared(int open) {
            readSum(open);
            int sign = next();
            if (sign == '<' || sign == '=' || sign == '>') {
                at++;
                readSum(open);
                mark(sign == '<' ? Law.LESS : sign == '=' ? Law.SAME : Law.MORE, 0);
            }
        }

        private void readSum(int open) {
            readProduct(open);
            while (at < length && (bytes[at] == '+' || bytes[at] == '-')) {
                int sign = bytes[at];
                at++;
                readProduct(open);
                mark(sign == '+' ? Law.PLUS : Law.WITHOUT, 0);
            }
        }

        private void readProduct(int open) {
            readOne(open);
            while (at < length && (bytes[at] == '*' || bytes[at] == '/' || bytes[at] == '%')) {
                int sign = bytes[at];
                at++;
                readOne(open);
                mark(sign == '*' ? Law.TIMES : sign == '/' ? Law.PART : Law.REST, 0);
            }
        }

        private void readOne(int open) {
            int sign = next();
            int name = nameOf(sign);
            if (sign >= '0' && sign <= '9') {
                readNumber();
            } else if (name >= 0) {
                at++;
                mark(Law.NAME, name);
            } else if ((sign == '(' || sign == '!' || sign == '-') && open < MOST_OPEN) {
                at++;
                readOpen(sign, open + 1);
            } else {
                fail();
            }
        }

        private void readNumber() {
            int number = 0;
            for (int i = 0; i < 4 && next() >= '0' && next() <= '9'; i++) {
                number = number * 10 + next() - '0';
                at++;
            }
            mark(Law.NUMBER, number);
        }

        /** What stands behind ( ! or -, of which so many are open. */
        private void readOpen(int sign, int open) {
            if (sign != '(') {
                readOne(open);
                mark(sign == '!' ? Law.FLIP : Law.MINUS, 0);
                return;
            }
            readAny(open);
            if (next() == ')') {
                at++;
            } else {
                fail();
            }
        }

        private static int nameOf(int sign) {
            switch (sign) {
                case 'w': return Law.WORTH;
                case 'c': return Law.COUNT;
                case 'p': return Law.PLACE;
                case 'n': return Law.SONGS;
                case 't': return Law.CAME;
                case 'k': return Law.KEPT;
                case 'i': return Law.SONG;
                default: return -1;
            }
        }
    }

    /** A WORLD. Its order and places are as they were at the latest arrange(). */
    private static final class World {
        static final int HIDDEN = 0, IN_ORDER = 1, UPSIDE_DOWN = 2;

        private final Songs songs;
        private Law law;
        int lawNumber;
        int show;
        int until;
        int nothing;
        private int z;
        int came;
        int kept;
        int shop;
        final int[] counts = new int[MOST_SONGS];
        final int[] order = new int[MOST_SONGS];
        final int[] places = new int[MOST_SONGS];
        final int[] weights = new int[MOST_SONGS];
        final byte[] log = new byte[MOST_LOGGED];
        private final int[] seen = new int[Law.NAMES];

        World(Songs songs) {
            this.songs = songs;
        }

        /** Orders 0 .. size-1 by numbers of theirs: the greatest first, of like ones by place. */
        static void rank(int[] numbers, int size, int[] order) {
            for (int s = 0; s < size; s++) {
                int at = s;
                while (at > 0 && numbers[order[at - 1]] < numbers[s]) {
                    order[at] = order[at - 1];
                    at--;
                }
                order[at] = s;
            }
        }

        static int drawn(int z) {
            return z * 1103515245 + 12345;
        }

        /** Makes it new: of a LAW, its list in order, nobody came. */
        void begin(Law law, int seed) {
            this.law = law;
            z = seed;
            show = IN_ORDER;
            nothing = 0;
            came = 0;
            kept = 0;
            Arrays.fill(counts, 0);
        }

        /** Takes a WORLD's LAW, what it shows, and its NOTHING. */
        void followLawOf(World w) {
            law = w.law;
            show = w.show;
            until = w.until;
            nothing = w.nothing;
        }

        void arrange() {
            rank(counts, songs.size, order);
            for (int p = 0; p < songs.size; p++) {
                places[order[p]] = p;
            }
        }

        int first() {
            return songs.size == 0 ? NOT : greatest(counts);
        }

        /** The number of the greatest, of like ones the first. */
        private int greatest(int[] numbers) {
            int best = 0;
            for (int s = 1; s < songs.size; s++) {
                best = numbers[s] > numbers[best] ? s : best;
            }
            return best;
        }

        /** The first h SONGS as bits. */
        int firstOnes(int h) {
            arrange();
            int bits = 0;
            for (int p = 0; p < h && p < songs.size; p++) {
                bits |= 1 << order[p];
            }
            return bits;
        }

        int placeSeen(int song) {
            if (show == HIDDEN) {
                return 0;
            }
            return show == UPSIDE_DOWN && came < until ? songs.size - 1 - places[song] : places[song];
        }

        int weigh(int song) {
            if (law == null) {
                return 0;
            }
            seen[Law.WORTH] = songs.worths[song];
            seen[Law.COUNT] = show == HIDDEN ? 0 : counts[song];
            seen[Law.PLACE] = placeSeen(song);
            seen[Law.SONGS] = songs.size;
            seen[Law.CAME] = came;
            seen[Law.KEPT] = kept;
            seen[Law.SONG] = song;
            return law.weigh(seen);
        }

        /** Works out the WEIGHTS of all SONGS: the sum of them and of none. */
        int weighAll() {
            arrange();
            int sum = nothing;
            for (int s = 0; s < songs.size; s++) {
                weights[s] = weigh(s);
                sum += weights[s];
            }
            return sum;
        }

        /** n come: how many kept one. */
        int manyCome(int n) {
            int before = kept;
            for (int i = 0; i < n; i++) {
                oneComes();
            }
            return kept - before;
        }

        private void oneComes() {
            int sum = weighAll();
            z = drawn(z);
            int left = sum > 0 ? (z >>> 8) % sum : 0;
            int chosen = -1;
            for (int s = 0; s < songs.size && chosen < 0; s++) {
                if (left < weights[s]) {
                    chosen = s;
                }
                left -= weights[s];
            }
            receive(chosen);
        }

        /** One comes who keeps a SONG (-1: none). */
        void receive(int song) {
            came++;
            if (!songs.has(song)) {
                return;
            }
            if (kept < MOST_LOGGED) {
                log[kept] = (byte) song;
            }
            kept++;
            counts[song] = Math.min(counts[song] + 1, MOST_COUNT);
        }

        int logged() {
            return Math.min(kept, MOST_LOGGED);
        }

        int allCounts() {
            int sum = 0;
            for (int s = 0; s < songs.size; s++) {
                sum += counts[s];
            }
            return sum;
        }

        int share(int song) {
            int sum = allCounts();
            return sum == 0 ? 0 : counts[song] * 1000 / sum;
        }

        /** 1: two SONGS' COUNTS go as their WORTHS do; -1: the other way; 0: some are alike. */
        int way(int a, int b) {
            return Integer.compare(songs.worths[a], songs.worths[b]) * Integer.compare(counts[a], counts[b]);
        }

        /** Behind how many KEEPINGS the one that is first by all of them is first for good. */
        int settled(int[] tally) {
            Arrays.fill(tally, 0);
            for (int k = 0; k < logged(); k++) {
                tally[log[k]]++;
            }
            int last = greatest(tally);
            Arrays.fill(tally, 0);
            int since = 0;
            for (int k = 0; k < logged(); k++) {
                if (greatest(tally) != last) {
                    since = k + 1;
                }
                tally[log[k]]++;
            }
            return since;
        }
    }

    /**
     * ODDS. What follows depends only on how many more each SONG got and how many came, so each such
     * state is worked out once: cells hold what follows by SONGS' numbers more, from the last step back.
     */
    private static final class Odds {
        static final int MOST_MORE = 6;
        private static final int CELLS = 7 * 7 * 7 * 7;
        private static final int[] STEPS = {1, 7, 49, 343};

        private final Songs songs;
        private final World now;
        private final long[] cells = new long[CELLS];
        private final int[] more = new int[MOST_ODDS_SONGS];
        private int sum;
        private int cell;

        Odds(Songs songs, World now) {
            this.songs = songs;
            this.now = now;
        }

        int foretell(World from, int song, int m, int what) {
            now.followLawOf(from);
            start();
            for (int i = 0; i < CELLS; i++) {
                think(from, m);
                cells[cell] = what == 1 ? now.counts[song] * 1000L : now.first() == song ? 1000000L : 0L;
                if (!turn(m)) {
                    break;
                }
            }
            for (int gone = m - 1; gone >= 0; gone--) {
                goBack(from, gone);
            }
            return (int) cells[0];
        }

        /** From what follows when one more came to what follows now, in cells; they lie ahead of those they need. */
        private void goBack(World from, int gone) {
            start();
            for (int i = 0; i < CELLS; i++) {
                think(from, gone);
                int all = now.weighAll();
                if (all > 0) {
                    cells[cell] = mixed() / all;
                }
                if (!turn(gone)) {
                    break;
                }
            }
        }

        private long mixed() {
            long total = now.nothing * cells[cell];
            for (int s = 0; s < songs.size && s < MOST_ODDS_SONGS; s++) {
                int then = cell + STEPS[s];
                if (now.weights[s] > 0 && then < CELLS) {
                    total += now.weights[s] * cells[then];
                }
            }
            return total;
        }

        private void start() {
            Arrays.fill(more, 0);
            sum = 0;
            cell = 0;
        }

        /** Goes to the next numbers more, whose sum is at most so much; false: those were the last. */
        private boolean turn(int most) {
            for (int s = 0; s < songs.size && s < MOST_ODDS_SONGS; s++) {
                if (sum < most) {
                    more[s]++;
                    sum++;
                    cell += STEPS[s];
                    return true;
                }
                sum -= more[s];
                cell -= more[s] * STEPS[s];
                more[s] = 0;
            }
            return false;
        }

        /** Sets the WORLD in thought as it is when so many came and kept the numbers more. */
        private void think(World from, int gone) {
            now.came = from.came + gone;
            now.kept = from.kept + sum;
            for (int s = 0; s < songs.size && s < MOST_ODDS_SONGS; s++) {
                now.counts[s] = Math.min(from.counts[s] + more[s], MOST_COUNT);
            }
        }
    }

    /**
     * CHANGES: the first done ones may be UNDONE, those behind them DONE AGAIN. A WORTH is of a SONG and
     * of no WORLD, a NOTHING of a WORLD and of no SONG, a CRATE of both.
     */
    private static final class Changes {
        static final int NONE = -1;
        private static final int MOST = 40;

        final int[] worlds = new int[MOST];
        final int[] songs = new int[MOST];
        final int[] ahead = new int[MOST];
        final int[] behind = new int[MOST];
        int done;
        int size;

        /** Keeps a change; one that leaves the number as it was is none, of whatever kind it is. */
        void note(int world, int song, int was, int is) {
            if (was == is) {
                return;
            }
            if (done >= MOST) {
                forgetFirst();
            }
            worlds[done] = world;
            songs[done] = song;
            ahead[done] = was;
            behind[done] = is;
            done++;
            size = done;
        }

        private void forgetFirst() {
            System.arraycopy(worlds, 1, worlds, 0, MOST - 1);
            System.arraycopy(songs, 1, songs, 0, MOST - 1);
            System.arraycopy(ahead, 1, ahead, 0, MOST - 1);
            System.arraycopy(behind, 1, behind, 0, MOST - 1);
            done = MOST - 1;
        }
    }

    /** KEEPINGS kept by call: their KINDS, their ACTS, and THE TRACE of the latest act. */
    private static final class Acts {
        static final int MOST_BODIES = 50, MOST_TRACED = 24, KINDS = 8;
        private static final int TRIES = 0, KEEPS = 1, COUNTS = 2, TELLS = 3, ACTS = 4;
        private static final int DEEPEST = 30;

        /** The KIND above each KIND; above KEEPING there is none. */
        private static final int[] ABOVE = {-1, 0, 0, 2, 0, 2, 1, 0};

        /** Numbers of bodies by KINDS, their ACTS in a row; 0: the KIND has none. */
        private static final int[] BODIES = {
            1, 10, 11, 2,
            20, 0, 0, 0,
            0, 30, 0, 0,
            0, 41, 40, 0,
            0, 0, 50, 0,
            0, 0, 0, 60,
            70, 0, 0, 0,
            0, 80, 0, 81
        };

        final int[] kinds = new int[MOST_BODIES];
        int size;
        final int[] traced = new int[MOST_TRACED];
        int ran;
        private int number;

        boolean has(int body) {
            return body >= 0 && body < size && body < MOST_BODIES;
        }

        static boolean isUnder(int kind, int k) {
            int at = kind;
            for (int i = 0; i < KINDS && at >= 0 && at < KINDS; i++) {
                if (at == k) {
                    return true;
                }
                at = ABOVE[at];
            }
            return false;
        }

        int perform(int body, int act, int x) {
            ran = 0;
            if (!has(body) || act < 0 || act >= ACTS) {
                return 0;
            }
            number = body;
            return own(act, x, 0);
        }

        /** The act as the KEEPING's own KIND has it. */
        private int own(int act, int x, int depth) {
            return ask(kinds[number], act, x, depth);
        }

        /** The act as KINDS above the body's have it. */
        private int above(int kind, int act, int x, int depth) {
            return ask(ABOVE[kind], act, x, depth);
        }

        /** Runs the body of a KIND, or of the next KIND above that has one. */
        private int ask(int from, int act, int x, int depth) {
            int at = from;
            for (int i = 0; i < KINDS && at > 0 && BODIES[at * ACTS + act] == 0; i++) {
                at = ABOVE[at];
            }
            if (at < 0 || depth > DEEPEST) {
                return 0;
            }
            return run(BODIES[at * ACTS + act], at, x, depth + 1);
        }

        private int run(int body, int kind, int x, int depth) {
            if (ran < MOST_TRACED) {
                traced[ran] = body;
            }
            ran++;
            switch (body) {
                case 1: return x + number;
                case 2: return own(KEEPS, x, depth) - own(COUNTS, 1, depth);
                case 10: return own(TRIES, x, depth) * 2;
                case 11: return x ^ number;
                case 20: return above(kind, TRIES, x, depth) + 3;
                case 30: return -above(kind, KEEPS, x, depth);
                case 40: return above(kind, COUNTS, x, depth) * 3;
                case 41: return above(kind, KEEPS, x + 1, depth);
                case 50: return above(kind, COUNTS, x, depth) - own(TRIES, 2, depth);
                case 60: return above(kind, TELLS, x, depth) ^ 5;
                case 70: return above(kind, TRIES, x, depth) * 2;
                case 80: return above(kind, KEEPS, x, depth) + own(COUNTS, 2, depth);
                case 81: return above(kind, TELLS, x, depth) - 1;
                default: return 0;
            }
        }
    }

    /** A SHELF: it holds nothing, a KEEPING, or a ROW. */
    private static final class Shelf {
        static final int EMPTY = 0, KEEPING = 1, ROW = 2;
        static final int BYTES = 0, SHORTS = 1, INTS = 2, LONGS = 3, BOOLEANS = 4;

        int holds;
        int body;
        int sort;
        int size;
        final long[] cells = new long[MOST_ELEMENTS];

        boolean has(int i) {
            return i >= 0 && i < size && i < MOST_ELEMENTS;
        }

        /** Whether n elements from i on are all there. */
        boolean hasRun(int i, int n) {
            return i >= 0 && n >= 0 && i <= size && n <= size - i;
        }

        /** What a ROW of this sort keeps of a number. */
        long lowest(long v) {
            switch (sort) {
                case BYTES: return (byte) v;
                case SHORTS: return (short) v;
                case INTS: return (int) v;
                case LONGS: return v;
                default: return v != 0 ? 1 : 0;
            }
        }
    }
}
