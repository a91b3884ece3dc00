import java.util.ArrayList;
import java.util.Arrays;
import java.util.List;

/**
 * The document once more, by other ways than the class goes: texts are worked out from their signs
 * each time, odds by trying all that may come, orders by making them all. It is slow, and only for tests.
 */
final class PlainWorlds {
    private static final int BAD = -1, NOT = -2, FULL = -3, BIG = -4, STATE = -5, VOID = -2000000000;

    private static final class Place {
        int law, show, until, nothing, z, came, kept, shop;
        int[] counts = new int[12];
        List<Integer> log = new ArrayList<>();

        Place copy() {
            Place c = new Place();
            c.law = law;
            c.show = show;
            c.until = until;
            c.nothing = nothing;
            c.z = z;
            c.came = came;
            c.kept = kept;
            c.shop = shop;
            c.counts = counts.clone();
            c.log = new ArrayList<>(log);
            return c;
        }
    }

    private record Change(int kind, int world, int song, int ahead, int behind) {
    }

    final List<Integer> worths = new ArrayList<>();
    private final StringBuilder tape = new StringBuilder();
    private final List<String> laws = new ArrayList<>();
    private final List<Place> worlds = new ArrayList<>();
    private final List<Change> toUndo = new ArrayList<>();
    private final List<Change> toRedo = new ArrayList<>();

    // ---- texts

    /** Where a text goes wrong; -1: nowhere. It walks over the signs and keeps a pile of what is open. */
    static int fault(String text) {
        StringBuilder open = new StringBuilder();
        boolean wanted = true, compared = false, asked = false;
        int digits = 0;
        for (int at = 0; at < text.length(); at++) {
            char c = text.charAt(at);
            boolean digit = c >= '0' && c <= '9';
            if (wanted) {
                if (digit || "wcpntki".indexOf(c) >= 0) {
                    digits = digit ? 1 : 4;
                    wanted = false;
                    closeSigns(open);
                } else if ("(!-".indexOf(c) >= 0 && signs(open) < 6) {
                    open.append(c == '(' && compared ? '[' : c);
                    compared = c != '(' && compared;
                } else {
                    return at;
                }
            } else if (digit) {
                if (digits == 4) {
                    return at;
                }
                digits++;
            } else {
                digits = 4;
                boolean inside = open.length() > 0;
                if ("+-*/%".indexOf(c) >= 0) {
                    wanted = true;
                } else if ("<=>".indexOf(c) >= 0 && !compared) {
                    wanted = true;
                    compared = true;
                } else if (c == '|' || c == '&') {
                    wanted = true;
                    compared = false;
                } else if (c == ')' && inside) {
                    compared = open.charAt(open.length() - 1) == '[';
                    open.setLength(open.length() - 1);
                    closeSigns(open);
                } else if ((c == '?' && !inside && !asked) || (c == ';' && !inside)) {
                    wanted = true;
                    compared = false;
                    asked = c == '?';
                } else {
                    return at;
                }
            }
        }
        return wanted || open.length() > 0 ? text.length() : -1;
    }

    private static int signs(StringBuilder open) {
        return open.length();
    }

    private static void closeSigns(StringBuilder open) {
        while (open.length() > 0 && "!-".indexOf(open.charAt(open.length() - 1)) >= 0) {
            open.setLength(open.length() - 1);
        }
    }

    /** Works a text out; the names' numbers are in the order of wcpntki. */
    static int weigh(String text, int... seen) {
        for (String line : text.split(";", -1)) {
            int ask = line.indexOf('?');
            if (ask < 0) {
                return held(value(line, seen));
            }
            if (value(line.substring(0, ask), seen) != 0) {
                return held(value(line.substring(ask + 1), seen));
            }
        }
        return 0;
    }

    private static int held(int v) {
        return v < 0 ? 0 : v > 9999 ? 9999 : v;
    }

    /** Splits at the last sign that binds least. */
    private static int value(String e, int[] seen) {
        for (String signs : new String[] {"|", "&", "<=>", "+-", "*/%"}) {
            int depth = 0;
            for (int at = e.length() - 1; at > 0; at--) {
                char c = e.charAt(at);
                depth += c == ')' ? 1 : c == '(' ? -1 : 0;
                char before = e.charAt(at - 1);
                boolean behindOne = before == ')' || Character.isLetterOrDigit(before);
                if (depth == 0 && behindOne && signs.indexOf(c) >= 0) {
                    return join(c, value(e.substring(0, at), seen), value(e.substring(at + 1), seen));
                }
            }
        }
        char c = e.charAt(0);
        if (c == '(') {
            return value(e.substring(1, e.length() - 1), seen);
        }
        if (c == '!') {
            return value(e.substring(1), seen) == 0 ? 1 : 0;
        }
        if (c == '-') {
            return 0 - value(e.substring(1), seen);
        }
        int name = "wcpntki".indexOf(c);
        return name >= 0 ? seen[name] : Integer.parseInt(e);
    }

    private static int join(char sign, int a, int b) {
        switch (sign) {
            case '|': return (a != 0) | (b != 0) ? 1 : 0;
            case '&': return (a != 0) & (b != 0) ? 1 : 0;
            case '<': return a < b ? 1 : 0;
            case '>': return a > b ? 1 : 0;
            case '=': return a == b ? 1 : 0;
            case '+': return (int) ((long) a + b);
            case '-': return (int) ((long) a - b);
            case '*': return (int) ((long) a * b);
            case '/': return b == 0 ? 0 : (int) ((long) a / b);
            default: return b == 0 ? 0 : (int) ((long) a % b);
        }
    }

    // ---- songs, laws, worlds

    int song(int worth) {
        if (worth < 0 || worth > 999) {
            return BAD;
        }
        if (worths.size() == 12) {
            return FULL;
        }
        worths.add(worth);
        return worths.size() - 1;
    }

    private boolean isSong(int song) {
        return song >= 0 && song < worths.size();
    }

    private boolean isWorld(int world) {
        return world >= 0 && world < worlds.size();
    }

    private void change(Change c) {
        if (c.ahead == c.behind) {
            return;
        }
        toRedo.clear();
        toUndo.add(c);
        if (toUndo.size() > 40) {
            toUndo.remove(0);
        }
    }

    int worth(int song, int v) {
        if (!isSong(song) || v < 0 || v > 999) {
            return BAD;
        }
        int was = worths.set(song, v);
        change(new Change(0, 0, song, was, v));
        return was;
    }

    int feed(int n, int v) {
        if (n < 1 || n > 4) {
            return BAD;
        }
        if (tape.length() + n > 120) {
            return FULL;
        }
        for (int i = 0; i < n; i++) {
            tape.append((char) ((v >> (8 * i)) & 0xFF));
        }
        return tape.length();
    }

    int law() {
        if (laws.size() == 6) {
            return FULL;
        }
        String text = tape.toString();
        tape.setLength(0);
        int fault = fault(text);
        if (fault >= 0) {
            return -100 - fault;
        }
        laws.add(text);
        return laws.size() - 1;
    }

    int world(int ls, int un, int seed) {
        if (ls < 0 || ls / 10 >= laws.size() || ls % 10 > 2 || un < 0 || un > 9999999) {
            return BAD;
        }
        if (worlds.size() == 9) {
            return FULL;
        }
        Place p = new Place();
        p.law = ls / 10;
        p.show = ls % 10;
        p.until = un / 10000;
        p.nothing = un % 10000;
        p.z = seed;
        worlds.add(p);
        return worlds.size() - 1;
    }

    int nothing(int world, int v) {
        if (!isWorld(world) || v < 0 || v > 9999) {
            return BAD;
        }
        int was = worlds.get(world).nothing;
        worlds.get(world).nothing = v;
        change(new Change(1, world, 0, was, v));
        return was;
    }

    private List<Integer> order(int[] numbers) {
        List<Integer> order = new ArrayList<>();
        for (int s = 0; s < worths.size(); s++) {
            order.add(s);
        }
        order.sort((a, b) -> numbers[a] != numbers[b] ? numbers[b] - numbers[a] : a - b);
        return order;
    }

    private int seenPlace(Place p, int song) {
        int place = order(p.counts).indexOf(song);
        boolean turned = p.show == 2 && p.came < p.until;
        return p.show == 0 ? 0 : turned ? worths.size() - 1 - place : place;
    }

    private int weigh(Place p, int song) {
        return weigh(laws.get(p.law), worths.get(song), p.show == 0 ? 0 : p.counts[song], seenPlace(p, song),
            worths.size(), p.came, p.kept, song);
    }

    int of(int world, int what) {
        if (!isWorld(world)) {
            return BAD;
        }
        Place p = worlds.get(world);
        if (what >= 100 && what < 500 && isSong(what % 100)) {
            int song = what % 100;
            int[] all = {0, p.counts[song], order(p.counts).indexOf(song), seenPlace(p, song), share(p, song)};
            return all[what / 100];
        }
        if (what < 0 || what > 4) {
            return BAD;
        }
        int first = worths.isEmpty() ? NOT : order(p.counts).get(0);
        return new int[] {p.came, p.kept, p.law, p.show, first}[what];
    }

    int weight(int world, int song) {
        return isWorld(world) && isSong(song) ? weigh(worlds.get(world), song) : BAD;
    }

    private void keep(Place p, int song) {
        p.came++;
        if (song >= 0) {
            p.kept++;
            p.log.add(song);
            if (p.counts[song] < 99999) {
                p.counts[song]++;
            }
        }
    }

    private void oneComes(Place p) {
        List<Integer> parts = new ArrayList<>();
        for (int s = 0; s < worths.size(); s++) {
            for (int i = weigh(p, s); i > 0; i -= 1) {
                parts.add(s);
            }
        }
        int sum = parts.size() + p.nothing;
        p.z = p.z * 1103515245 + 12345;
        int at = sum == 0 ? 0 : (p.z >>> 8) % sum;
        keep(p, at < parts.size() ? parts.get(at) : -1);
    }

    int come(int world, int n) {
        if (!isWorld(world) || n < 1 || n > 200) {
            return BAD;
        }
        Place p = worlds.get(world);
        int before = p.kept;
        for (int i = 0; i < n; i++) {
            oneComes(p);
        }
        return p.kept - before;
    }

    /** KEEPINGS from a row of these bytes (null: missing). */
    int keepings(int world, byte[] row, int i, int n) {
        if (!isWorld(world) || n < 1 || n > 60) {
            return BAD;
        }
        int came = 0;
        for (long at = i; row != null && came < n && at >= 0 && at < row.length; at++) {
            int song = row[(int) at];
            if (song < -1 || song >= worths.size()) {
                break;
            }
            keep(worlds.get(world), song);
            came++;
        }
        return came;
    }

    int led(int world, int k) {
        if (!isWorld(world) || k < 0 || k >= 200 || k >= worlds.get(world).log.size()) {
            return BAD;
        }
        return worlds.get(world).log.get(k);
    }

    // ---- unlike, luck, guesses

    private int share(Place p, int song) {
        int sum = Arrays.stream(p.counts).sum();
        return sum == 0 ? 0 : (int) (p.counts[song] * 1000L / sum);
    }

    int unequal(int world) {
        if (!isWorld(world)) {
            return BAD;
        }
        int sum = 0, n = worths.size();
        for (int a = 0; a < n; a++) {
            for (int b = 0; b < n; b++) {
                sum += Math.abs(share(worlds.get(world), a) - share(worlds.get(world), b));
            }
        }
        return n == 0 ? 0 : sum / 2 / n;
    }

    private boolean areTwo(int vw) {
        return vw >= 0 && vw / 10 != vw % 10 && isWorld(vw / 10) && isWorld(vw % 10);
    }

    private int unlike(Place a, Place b) {
        int sum = 0;
        for (int s = 0; s < worths.size(); s++) {
            sum += Math.abs(share(a, s) - share(b, s));
        }
        return sum / 2;
    }

    int unlike(int vw) {
        return areTwo(vw) ? unlike(worlds.get(vw / 10), worlds.get(vw % 10)) : BAD;
    }

    int luck(int law, int song) {
        if (law < 0 || law >= laws.size() || (song != -1 && !isSong(song))) {
            return BAD;
        }
        List<Place> those = new ArrayList<>();
        for (Place p : worlds) {
            if (p.law == law) {
                those.add(p);
            }
        }
        if (those.size() < 2 || worths.isEmpty()) {
            return NOT;
        }
        if (song == -1) {
            int sum = 0;
            for (int s = 0; s < worths.size(); s++) {
                sum += luck(law, s);
            }
            return sum / worths.size();
        }
        int sum = 0;
        for (Place a : those) {
            for (Place b : those) {
                sum += Math.abs(share(a, song) - share(b, song));
            }
        }
        return sum / (those.size() * (those.size() - 1));
    }

    int right(int world) {
        return isWorld(world) ? guess(1 << world, 0) : BAD;
    }

    int guess(int told, int what) {
        if (told < 0 || told >> worlds.size() != 0 || what < 0 || what > 1) {
            return BAD;
        }
        int hits = 0, pairs = 0;
        for (int a = 0; a < worths.size(); a++) {
            for (int b = a + 1; b < worths.size(); b++) {
                int same = 0, other = 0;
                for (int w = 0; w < worlds.size(); w++) {
                    int[] counts = worlds.get(w).counts;
                    if ((told & 1 << w) == 0 || counts[a] == counts[b] || worths.get(a).equals(worths.get(b))) {
                        continue;
                    }
                    if (counts[a] > counts[b] == worths.get(a) > worths.get(b)) {
                        same++;
                    } else {
                        other++;
                    }
                }
                hits += what == 0 || same > other ? same : other;
                pairs += same + other;
            }
        }
        return pairs == 0 ? NOT : hits * 1000 / pairs;
    }

    int odds(int world, int song, int m, int what) {
        if (!isWorld(world) || !isSong(song) || m < 0 || m > 6 || what < 0 || what > 1) {
            return BAD;
        }
        return worths.size() > 4 ? BIG : (int) odds(worlds.get(world), song, m, what);
    }

    private long odds(Place p, int song, int m, int what) {
        if (m == 0) {
            return what == 1 ? p.counts[song] * 1000L : order(p.counts).get(0) == song ? 1000000 : 0;
        }
        long sum = 0, total = 0;
        for (int s = -1; s < worths.size(); s++) {
            long weight = s < 0 ? p.nothing : weigh(p, s);
            sum += weight;
            if (weight > 0) {
                Place then = p.copy();
                keep(then, s);
                total += weight * odds(then, song, m - 1, what);
            }
        }
        if (sum > 0) {
            return total / sum;
        }
        Place then = p.copy();
        keep(then, -1);
        return odds(then, song, m - 1, what);
    }

    int after(int world) {
        if (!isWorld(world)) {
            return BAD;
        }
        List<Integer> log = worlds.get(world).log;
        if (log.isEmpty()) {
            return NOT;
        }
        if (log.size() > 200) {
            return STATE;
        }
        int behind = log.size();
        while (behind > 0 && firstBy(log.subList(0, behind - 1)) == firstBy(log)) {
            behind--;
        }
        return behind;
    }

    private int firstBy(List<Integer> log) {
        int[] counts = new int[12];
        for (int song : log) {
            counts[song]++;
        }
        return order(counts).get(0);
    }

    // ---- charts, crates, houses

    int shop(int world, int v) {
        if (!isWorld(world) || v < 0 || v > 9) {
            return BAD;
        }
        int was = worlds.get(world).shop;
        worlds.get(world).shop = v;
        return was;
    }

    int chart(int i, int what) {
        if (!isSong(i) || what < 0 || what > 1) {
            return BAD;
        }
        int[] sums = new int[12];
        for (Place p : worlds) {
            for (int s = 0; s < 12; s++) {
                sums[s] += p.shop * p.counts[s];
            }
        }
        int song = order(sums).get(i);
        return what == 0 ? song : sums[song];
    }

    int crate(int world, int song, int m) {
        if (!isWorld(world) || !isSong(song) || m < 1 || m > 9999) {
            return BAD;
        }
        int[] counts = worlds.get(world).counts;
        int was = counts[song];
        counts[song] = Math.min(99999, was + m);
        change(new Change(2, world, song, was, counts[song]));
        return counts[song];
    }

    int found(int world, int what) {
        if (!isWorld(world) || what < 0 || what > 1) {
            return BAD;
        }
        int[] counts = worlds.get(world).counts;
        long all = Arrays.stream(counts).sum(), worth = worths.stream().mapToInt(v -> v).sum();
        if (all == 0 || worth == 0) {
            return NOT;
        }
        int[] above = new int[12];
        for (int s = 0; s < worths.size(); s++) {
            above[s] = (int) (counts[s] - all * worths.get(s) / worth);
        }
        int song = order(above).get(0);
        return what == 0 ? song : above[song];
    }

    int house(int world, int signed, int h, int what) {
        int n = worths.size();
        if (!isWorld(world) || signed < 0 || signed >> n != 0 || h < 1 || h > n || what < 0 || what > 3) {
            return VOID;
        }
        List<Integer> hits = order(worlds.get(world).counts).subList(0, h);
        int hit = 0, drawer = 0, all = 0;
        for (int s = 0; s < n; s++) {
            if ((signed >> s & 1) == 1) {
                all++;
                hit += hits.contains(s) ? 1 : 0;
                drawer |= hits.contains(s) ? 0 : 1 << s;
            }
        }
        int chance = all * h * 1000 / n;
        return new int[] {hit, chance, hit * 1000 - chance, drawer}[what];
    }

    int said(int law, int world) {
        if (law < 0 || law >= laws.size() || (world != -1 && !isWorld(world))) {
            return BAD;
        }
        if (world >= 0) {
            return isTrue(laws.get(law), order(worlds.get(world).counts)) ? 1 : 0;
        }
        return worths.size() > 6 ? BIG : orders(laws.get(law), new ArrayList<>());
    }

    private int orders(String law, List<Integer> order) {
        if (order.size() == worths.size()) {
            return isTrue(law, order) ? 1 : 0;
        }
        int sum = 0;
        for (int s = 0; s < worths.size(); s++) {
            if (!order.contains(s)) {
                List<Integer> longer = new ArrayList<>(order);
                longer.add(s);
                sum += orders(law, longer);
            }
        }
        return sum;
    }

    private boolean isTrue(String law, List<Integer> order) {
        for (int p = 0; p + 1 < order.size(); p++) {
            int a = order.get(p), b = order.get(p + 1), n = worths.size();
            if (weigh(law, worths.get(a), 0, p, n, 0, 0, a) < weigh(law, worths.get(b), 0, p + 1, n, 0, 0, b)) {
                return false;
            }
        }
        return true;
    }

    int strong(int lm, int n, int seed) {
        if (lm < 0 || lm / 10 >= laws.size() || lm % 10 >= laws.size() || lm / 10 == lm % 10 || n < 1 || n > 400) {
            return VOID;
        }
        return thought(lm / 10, n, seed) - thought(lm % 10, n, seed);
    }

    private int thought(int law, int n, int seed) {
        Place[] two = {new Place(), new Place()};
        for (int i = 0; i < 2; i++) {
            two[i].law = law;
            two[i].show = 1;
            two[i].z = seed + i;
            for (int k = 0; k < n; k++) {
                oneComes(two[i]);
            }
        }
        return unlike(two[0], two[1]);
    }

    int line(int vw) {
        return areTwo(vw) ? far(places(vw / 10), places(vw % 10)) : BAD;
    }

    private int[] places(int world) {
        List<Integer> order = order(worlds.get(world).counts);
        int[] places = new int[worths.size()];
        for (int s = 0; s < places.length; s++) {
            places[s] = order.indexOf(s);
        }
        return places;
    }

    private static int far(int[] a, int[] b) {
        int sum = 0;
        for (int s = 0; s < a.length; s++) {
            sum += Math.abs(a[s] - b[s]);
        }
        return sum;
    }

    int against(int vw, int seed, int n) {
        if (!areTwo(vw) || n < 1 || n > 50) {
            return BAD;
        }
        int[] first = places(vw / 10), second = places(vw % 10);
        int near = 0, line = line(vw), z = seed;
        for (int i = 0; i < n; i++) {
            for (int s = worths.size() - 1; s >= 1; s--) {
                z = z * 1103515245 + 12345;
                int j = (z >>> 8) % (s + 1), was = second[j];
                second[j] = second[s];
                second[s] = was;
            }
            near += far(first, second) <= line ? 1 : 0;
        }
        return near;
    }

    private void apply(Change c, int v) {
        if (c.kind == 0) {
            worths.set(c.song, v);
        } else if (c.kind == 1) {
            worlds.get(c.world).nothing = v;
        } else {
            worlds.get(c.world).counts[c.song] = v;
        }
    }

    int undo() {
        if (toUndo.isEmpty()) {
            return STATE;
        }
        Change c = toUndo.remove(toUndo.size() - 1);
        toRedo.add(c);
        apply(c, c.ahead);
        return toUndo.size();
    }

    int redo() {
        if (toRedo.isEmpty()) {
            return STATE;
        }
        Change c = toRedo.remove(toRedo.size() - 1);
        toUndo.add(c);
        apply(c, c.behind);
        return toRedo.size();
    }

    int count(int what) {
        int[] all = {worths.size(), laws.size(), worlds.size(), tape.length(), toUndo.size()};
        return all[what];
    }
}
