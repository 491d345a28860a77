import java.util.ArrayList;
import java.util.IdentityHashMap;
import java.util.List;
import java.util.Map;

/**
 * What the edge tests share: the answers that are due, states to begin from, and a look at all that a
 * call could have changed. A look asks what can be asked without a change first, then takes the object
 * apart (undoes, restores, reads the tape); so each look has an object of its own, made the same way,
 * and no object is used for more than 512 calls.
 */
final class Edges {
    static final int NONE = -1000000, BAD = -1000001, STATE = -1000002, FULL = -1000003;
    static final int NULL = 1, PLACE = 2, KIND = 3, SIZE = 4, STORE = 5;
    static final int MIN = Integer.MIN_VALUE, MAX = Integer.MAX_VALUE;

    interface Begin {
        NinthWave make();
    }

    interface Call {
        int on(NinthWave x);
    }

    interface Numbered {
        int on(NinthWave x, int n);
    }

    private interface Look {
        void at(NinthWave x, List<Integer> seen);
    }

    /*
     * WATER: 42 34 44 29 35 31 40 32 41 .. Behind three waves ships 0 and 2 are over, 1 has struck; 3, 4, 5 wait.
     * Behind five, by LAW 7, COUNTS are 11, 13, 11, and the order is 3 1 2 0 4 5, of which 5 heeds tower 1 like 4.
     */
    private static final String TEXT = "b30,4;p12;s9;d7;l8;m11;p3;t5,6;t2,7;t0,8;h33,0;h40,1;h39,2;h28,0;h24,1;h44,2;";
    /** A text whose only fault, a 2, is at its end: nothing that it tells may be found in the sea that stands. */
    private static final String UNREAD = "b9,9;m9;l1;t7,7;h9,0;h8,9;";
    /** Sea, acts, an image, rows, a tape, a trace, a fault; status() is 2. */
    static final Begin BUSY = () -> busy(UNREAD, "b4");
    /** The same, but status() is 0. */
    static final Begin CALM = () -> {
        NinthWave x = BUSY.make();
        x.set(0, 0, 3);
        return x;
    };
    /** The same, with 24 acts and some that are forgotten. */
    static final Begin ACTED = () -> {
        NinthWave x = BUSY.make();
        for (int k = 0; k < 20; k++) {
            x.slip(k % 3, 1 + k % 2);
        }
        return x;
    };
    /** All but a sea. */
    static final Begin NO_SEA = () -> {
        NinthWave x = new NinthWave();
        read(x, UNREAD);
        furnish(x, "b4");
        return x;
    };
    static final Begin BLANK = NinthWave::new;

    private static final Map<Begin, List<List<Integer>>> TWINS = new IdentityHashMap<>();
    private static final List<Look> LOOKS = List.of(Edges::lookAtSea, Edges::lookAtSwells,
            (x, seen) -> lookAtActs(x, seen, 0), (x, seen) -> lookAtActs(x, seen, 1),
            (x, seen) -> lookAtActs(x, seen, 2), (x, seen) -> lookAtActs(x, seen, 3),
            (x, seen) -> lookAtActs(x, seen, 4), (x, seen) -> lookAtImage(x, seen, 0),
            (x, seen) -> lookAtImage(x, seen, 1), (x, seen) -> lookAtRows(x, seen, 0),
            (x, seen) -> lookAtRows(x, seen, 4), Edges::lookAtLanes, Edges::lookAtTape);

    private static String sentence = "";
    private static int wrong = 0;
    private static int asked = 0;
    private static int sentences = 0;

    private Edges() {
    }

    /** Names the promise, and the words of the document that the answers from here on show. */
    static void sentence(String promise, String words) {
        sentence = promise + ": \"" + words + "\"";
        sentences++;
    }

    static void due(String call, int got, int want) {
        asked++;
        if (got != want) {
            wrong++;
            System.out.println(sentence + ": " + call + " answered " + got + ", due is " + want);
        }
    }

    static void end() {
        System.out.println(sentences + " sentences, " + asked + " answers, " + wrong + " not as due");
        if (wrong != 0) {
            System.exit(1);
        }
    }

    static int read(NinthWave x, String text) {
        for (int i = 0; i < text.length(); i++) {
            x.feed(text.charAt(i));
        }
        return x.sea();
    }

    static NinthWave told(String text) {
        NinthWave x = new NinthWave();
        int swells = read(x, text);
        if (swells < 1) {
            due("the text " + text, swells, 1);
        }
        return x;
    }

    static void fill(NinthWave x, int row, int lane, int... items) {
        x.row(row, lane, items.length);
        for (int i = 0; i < items.length; i++) {
            x.set(row, i, items[i]);
        }
    }

    /** BAD, STATE, FULL: nothing changes, status() neither. */
    static void refused(Begin begin, String call, Call c, int want) {
        dueAndNothingElse(begin, call, c, want, begin.make().status());
    }

    /** A finding: nothing changes but status(), which was another number. */
    static void found(Begin begin, String call, Call c, int number) {
        due("status() ahead of " + call + " is another", begin.make().status() == number ? 0 : 1, 1);
        dueAndNothingElse(begin, call, c, -1000010 - number, number);
    }

    /** An answer that changes nothing. */
    static void answered(Begin begin, String call, Call c, int want) {
        dueAndNothingElse(begin, call, c, want, begin.make().status());
    }

    /** The least and the most that a number (# in the name) may be, and those just outside, which are BAD. */
    static void bounds(Begin begin, String name, Numbered c, int least, int atLeast, int most, int atMost) {
        due(name.replace("#", "" + least), c.on(begin.make(), least), atLeast);
        due(name.replace("#", "" + most), c.on(begin.make(), most), atMost);
        bad(begin, name, c, least - 1, most + 1, MIN, MAX);
    }

    static void bad(Begin begin, String name, Numbered c, int... numbers) {
        for (int n : numbers) {
            refused(begin, name.replace("#", "" + n), x -> c.on(x, n), BAD);
        }
    }

    static void dueAndNothingElse(Begin begin, String call, Call c, int want, int status) {
        NinthWave x = begin.make();
        due(call, c.on(x), want);
        due("status() behind " + call, x.status(), status);
        List<List<Integer>> twin = TWINS.computeIfAbsent(begin, b -> lookedAt(b, y -> 0));
        List<List<Integer>> seen = lookedAt(begin, c);
        for (int k = 0; k < twin.size(); k++) {
            due("look " + k + " behind " + call + ": all is as ahead", seen.get(k).equals(twin.get(k)) ? 1 : 0, 1);
        }
    }

    /** Whether two ways lead to the same, but for status(). */
    static void dueSame(String what, Begin one, Begin other) {
        List<List<Integer>> a = lookedAt(one, x -> 0);
        List<List<Integer>> b = lookedAt(other, x -> 0);
        for (int k = 0; k < a.size(); k++) {
            due(what + ": look " + k + " shows the same", a.get(k).equals(b.get(k)) ? 1 : 0, 1);
        }
    }

    private static List<List<Integer>> lookedAt(Begin begin, Call c) {
        List<List<Integer>> all = new ArrayList<>();
        for (Look look : LOOKS) {
            NinthWave x = begin.make();
            c.on(x);
            List<Integer> seen = new ArrayList<>();
            look.at(x, seen);
            all.add(seen);
        }
        return all;
    }

    /** BUSY with another text that has a fault, another tape. */
    static NinthWave busy(String faulty, String tape) {
        NinthWave x = new NinthWave();
        read(x, TEXT);
        read(x, faulty);
        x.waves(3);
        x.image(0);
        x.law(7);
        x.slip(1, 2);
        x.change(0, 3);
        x.heeds(5, 1);
        x.waves(2);
        x.ask(1, 0);
        furnish(x, tape);
        return x;
    }

    /** Rows 0, 5 of bytes, 1 of shorts, 2, 3, 7 of ints, 4 and 6 missing; bytes on the tape; a finding. */
    private static void furnish(NinthWave x, String tape) {
        fill(x, 0, 0, 3, 4, 5);
        fill(x, 1, 1, 6, 7, 8, 9);
        x.row(2, 2, 40);
        for (int i = 0; i < 40; i++) {
            x.set(2, i, 3 + i % 9);
        }
        fill(x, 3, 2, 8, 7, 6);
        x.row(5, 0, 0);
        fill(x, 7, 2, 3, 11);
        for (int i = 0; i < tape.length(); i++) {
            x.feed(tape.charAt(i));
        }
        x.set(0, 3, 9);
    }

    private static void lookAtSea(NinthWave x, List<Integer> seen) {
        for (int i = 0; i <= 16; i++) {
            seen.add(x.trace(i));
        }
        for (int what = 0; what <= 8; what++) {
            seen.add(x.count(what));
        }
        seen.add(x.fault());
        lookAtShips(x, seen);
    }

    private static void lookAtShips(NinthWave x, List<Integer> seen) {
        for (int s = 0; s < 6; s++) {
            for (int what = 0; what <= 4; what++) {
                seen.add(x.ship(s, what));
            }
        }
        for (int t = 0; t < 3; t++) {
            for (int what = 0; what <= 2; what++) {
                seen.add(x.tower(t, what));
            }
        }
    }

    private static void lookAtSwells(NinthWave x, List<Integer> seen) {
        for (int s = 0; s < 20; s++) {
            seen.add(x.kind(s));
        }
        for (int w = 0; w < 24; w++) {
            for (int what = 0; what <= 3; what++) {
                seen.add(x.wave(w, what));
            }
        }
        seen.add(x.wave(1199, 2));
    }

    /** Undoes all, and tells behind each undoing the counts (0), or something of each ship. */
    private static void lookAtActs(NinthWave x, List<Integer> seen, int what) {
        for (int k = 0; k <= 24; k++) {
            seen.add(x.undo());
            for (int s = 0; s < 6 && what > 0; s++) {
                seen.add(x.ship(s, what));
            }
            for (int t = 0; t < 3 && what == 0; t++) {
                seen.add(x.tower(t, 1));
                seen.add(x.count(4 + t));
            }
        }
    }

    private static void lookAtImage(NinthWave x, List<Integer> seen, int k) {
        seen.add(x.restore(k));
        for (int what = 1; what <= 7; what++) {
            seen.add(x.count(what));
        }
        lookAtShips(x, seen);
        for (int w = 0; w < 20; w++) {
            seen.add(x.wave(w, 2));
            seen.add(x.wave(w, 3));
        }
    }

    /** By LAW 12 and plain waves the log of one wave, 3 .. 11, tells which it is. */
    private static void lookAtRows(NinthWave x, List<Integer> seen, int first) {
        x.sea();
        read(x, "b0,0;p0;t0,0;");
        x.law(12);
        for (int row = first; row < first + 4; row++) {
            for (int i = 0; i <= 40; i++) {
                seen.add(x.log(row, i, 1, 1));
            }
        }
    }

    private static void lookAtLanes(NinthWave x, List<Integer> seen) {
        for (int row = 0; row < 8; row++) {
            seen.add(x.set(row, 0, 1234567));
            seen.add(x.drop(row));
        }
    }

    private static void lookAtTape(NinthWave x, List<Integer> seen) {
        String rest = "1,3;d9;t0,0;";
        for (int i = 0; i < rest.length(); i++) {
            seen.add(x.feed(rest.charAt(i)));
        }
        seen.add(x.sea());
        seen.add(x.fault());
        seen.add(x.wave(0, 2));
        seen.add(x.wave(10, 2));
    }
}
