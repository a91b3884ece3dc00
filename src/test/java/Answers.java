import java.util.ArrayList;
import java.util.List;

/**
 * What an object answers to a run of calls that asks all there is, changes it, and asks again: two objects
 * that answer alike here are taken to be in one state. One answer is one call, but for some twenty more.
 */
final class Answers {
    private static final long ALL_BITS_COUNT = 0x7B123456789AL;

    private final EightWorlds x;
    private final List<Long> all = new ArrayList<>();

    private Answers(EightWorlds x) {
        this.x = x;
    }

    static List<Long> of(EightWorlds x) {
        Answers a = new Answers(x);
        int songs = x.count(0), worlds = x.count(2);
        a.numbers();
        a.shelves();
        a.worlds(songs, worlds);
        a.changes();
        a.worlds(Math.min(songs, 3), Math.min(worlds, 3));
        a.told(songs, worlds);
        a.goesOn(worlds);
        return a.all;
    }

    private void add(long answer) {
        all.add(answer);
    }

    private void numbers() {
        for (int what = 0; what <= 6; what++) {
            add(x.count(what));
        }
        for (int i = 0; i <= 7; i++) {
            add(x.trace(i));
        }
    }

    private void shelves() {
        for (int s = 0; s < 6; s++) {
            add(x.taken(s, 0));
            for (int i : new int[] {0, 1, 2, 3, 58, 59}) {
                add(x.element(s, i));
            }
            // what is kept of it tells the sort
            add(x.put(s, 1, ALL_BITS_COUNT));
            add(x.element(s, 1));
        }
    }

    private void worlds(int songs, int worlds) {
        for (int w = 0; w < worlds; w++) {
            for (int what = 0; what <= 3; what++) {
                add(x.of(w, what));
            }
            for (int s = 0; s < songs; s += Math.max(1, songs / 3)) {
                add(x.of(w, 100 + s));
            }
            add(x.unequal(w));
            add(x.led(w, 0));
            add(x.after(w));
            add(songs == 0 ? 0 : x.weight(w, songs - 1));
        }
    }

    /** What may be done again, and then undone, and done again. */
    private void changes() {
        for (int i = 0; i < 3; i++) {
            add(x.redo());
        }
        for (int i = 0; i < 5; i++) {
            add(x.undo());
            add(x.of(0, 100));
            add(x.weight(0, 0));
        }
    }

    /** The numbers that are told again, each with what it was. */
    private void told(int songs, int worlds) {
        for (int s = 0; s < songs; s++) {
            add(x.worth(s, 7 + s));
        }
        for (int w = 0; w < worlds; w++) {
            add(x.nothing(w, 3));
            add(x.shop(w, 1 + w % 9));
        }
    }

    /** THE TAPE as a LAW, and what comes then: draws, new ones of all kinds, an act. */
    private void goesOn(int worlds) {
        for (int w = 0; w < worlds; w++) {
            add(x.come(w, 50));
            add(x.unequal(w));
        }
        for (int i = 0; i < 3; i++) {
            add(x.chart(i, 1));
        }
        int law = x.law();
        add(law);
        add(x.song(500));
        add(x.song(300));
        add(x.world(10 * Math.max(0, law) + 1, 9, 5));
        add(x.come(x.count(2) - 1, 100));
        add(x.of(x.count(2) - 1, 100));
        add(x.body(6));
        add(x.act(x.count(5) - 1, 3, 1000));
        add(x.trace(6));
    }
}
