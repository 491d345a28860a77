import java.util.ArrayDeque;
import java.util.ArrayList;
import java.util.Arrays;
import java.util.Deque;
import java.util.List;
import java.util.Random;
import java.util.regex.Matcher;
import java.util.regex.Pattern;

/**
 * Drawn runs of calls, each answer compared with that of a plain model, which copies the whole sea
 * for each act and each foretelling, and tries every order by letting the waves come in.
 */
public final class ModelTest {
    private static final int NONE = -1000000, BAD = -1000001, STATE = -1000002, FULL = -1000003;
    private static final int RUNS = 1500, CALLS = 512;

    private static final class Ship {
        int draught, tower, fate, crossed = NONE;

        Ship twin() {
            Ship s = new Ship();
            s.draught = draught;
            s.tower = tower;
            s.fate = fate;
            s.crossed = crossed;
            return s;
        }
    }

    private static final class Sea {
        int depth, ebb, wave, law = 9;
        String sorts = "";
        List<Integer> heights = new ArrayList<>();
        List<Integer> sees = new ArrayList<>();
        List<Integer> counts = new ArrayList<>();
        List<Ship> ships = new ArrayList<>();
        List<Integer> order = new ArrayList<>();

        Sea twin() {
            Sea s = new Sea();
            s.depth = depth;
            s.ebb = ebb;
            s.wave = wave;
            s.law = law;
            s.sorts = sorts;
            s.heights = heights;
            s.sees = sees;
            s.counts = new ArrayList<>(counts);
            s.order = new ArrayList<>(order);
            for (Ship ship : ships) {
                s.ships.add(ship.twin());
            }
            return s;
        }

        char sort(int w) {
            return sorts.charAt(w % sorts.length());
        }

        int height(int w) {
            return heights.get(w % heights.size());
        }

        static int lift(char sort, int height) {
            return sort == 'p' ? height : sort == 's' ? height / 2 : sort == 'd' ? height + height
                    : sort == 'l' ? 0 : height < 5 ? 0 : height - 5;
        }

        int water(int w, char sort, int height) {
            int left = depth - ebb * w / 10;
            return (left < 0 ? 0 : left) + lift(sort, height);
        }

        int water(int w) {
            return water(w, sort(w), height(w));
        }

        static int step(char sort, int sees) {
            return sort == 's' ? (sees % 2 == 1 ? 2 : 1) : sort == 'l' ? sees / 2 % 2 : sort == 'm' ? sees / 4 : 1;
        }

        /** Steps one by one, so that a multiple on the way is seen. */
        static boolean comesTo(int count, int step, int law) {
            boolean called = false;
            for (int k = 1; k <= step; k++) {
                called |= (count + k) % law == 0;
            }
            return called;
        }

        int come(char sort, int height) {
            int callers = 0;
            for (int t = 0; t < sees.size(); t++) {
                int step = step(sort, sees.get(t));
                boolean called = comesTo(counts.get(t), step, law);
                counts.set(t, counts.get(t) + step);
                if (!called) {
                    continue;
                }
                callers++;
                for (int s : order) {
                    Ship ship = ships.get(s);
                    if (ship.fate == 0 && ship.tower == t) {
                        ship.fate = water(wave, sort, height) >= ship.draught ? 1 : 2;
                        ship.crossed = wave;
                        break;
                    }
                }
            }
            wave++;
            return callers;
        }

        int come() {
            return come(sort(wave), height(wave));
        }

        Sea behind(int n) {
            Sea s = twin();
            for (int k = 0; k < n; k++) {
                s.come();
            }
            return s;
        }

        int fates(int fate) {
            int many = 0;
            for (Ship ship : ships) {
                many += ship.fate == fate ? 1 : 0;
            }
            return many;
        }
    }

    private static final class Model {
        final Integer[][] rows = new Integer[8][];
        final int[] lanes = new int[8];
        StringBuilder tape = new StringBuilder();
        Sea sea;
        final Sea[] images = new Sea[2];
        final Deque<Sea> acts = new ArrayDeque<>();
        List<Integer> trace = new ArrayList<>();
        int fault, status;

        int found(int k) {
            status = k;
            return -1000010 - k;
        }

        int fine(int answer) {
            status = 0;
            return answer;
        }

        void act() {
            acts.addLast(sea.twin());
            if (acts.size() > 24) {
                acts.removeFirst();
            }
        }

        boolean isShip(int s) {
            return sea != null && s >= 0 && s < sea.ships.size();
        }

        boolean isTower(int t) {
            return sea != null && t >= 0 && t < sea.sees.size();
        }

        boolean isSwell(int s) {
            return sea != null && s >= 0 && s < sea.sorts.length();
        }

        static boolean in(int v, int a, int b) {
            return a <= v && v <= b;
        }

        int row(int r, int lane, int n) {
            if (!in(r, 0, 7) || !in(lane, 0, 2) || n > 40) return BAD;
            if (n < 0) return found(4);
            rows[r] = new Integer[n];
            Arrays.fill(rows[r], 0);
            lanes[r] = lane;
            return fine(n);
        }

        int set(int r, int i, int v) {
            if (!in(r, 0, 7)) return BAD;
            if (rows[r] == null) return found(1);
            if (!in(i, 0, rows[r].length - 1)) return found(2);
            int shift = lanes[r] == 0 ? 24 : lanes[r] == 1 ? 16 : 0;
            rows[r][i] = v << shift >> shift;
            return fine(rows[r][i]);
        }

        int copy(int a, int i, int b, int j, int n) {
            if (!in(a, 0, 7) || !in(b, 0, 7)) return BAD;
            if (rows[a] == null || rows[b] == null) return found(1);
            if (lanes[a] != lanes[b]) return found(5);
            if (i < 0 || j < 0 || n < 0 || (long) i + n > rows[a].length || (long) j + n > rows[b].length) return found(2);
            Integer[] kept = rows[a].clone();
            for (int k = 0; k < n; k++) rows[b][j + k] = kept[i + k];
            return fine(n);
        }

        int drop(int r) {
            if (!in(r, 0, 7)) return BAD;
            if (rows[r] == null) return found(1);
            int n = rows[r].length;
            rows[r] = null;
            return fine(n);
        }

        int feed(int b) {
            if (!in(b, 0, 255)) return BAD;
            if (tape.length() == 160) return FULL;
            tape.append((char) b);
            return tape.length();
        }

        /** All tokens first, as {place, value}; value: a number, or 1000 and the byte; 0 less 1 for none; then the end. */
        static List<int[]> tokens(String text) {
            List<int[]> all = new ArrayList<>();
            Matcher m = Pattern.compile("[0-9]+|[a-z,;]|.", Pattern.DOTALL).matcher(text);
            while (m.find()) {
                String one = m.group();
                char c = one.charAt(0);
                int value = in(c, '0', '9') ? (one.length() > 2 ? -1 : Integer.parseInt(one))
                        : in(c, 'a', 'z') || c == ',' || c == ';' ? 1000 + c : -1;
                all.add(new int[] {m.start(), value});
            }
            all.add(new int[] {text.length(), -2});
            return all;
        }

        /** A word of the grammar per letter: the letter, then the most of each number between signs. */
        int sea() {
            List<int[]> all = tokens(tape.toString());
            tape = new StringBuilder();
            Sea read = new Sea();
            String may = "b";
            int at = 0;
            while (true) {
                int[] token = all.get(at);
                if (token[1] == -2 && may.indexOf('$') >= 0) break;
                if (token[1] < 1000 || may.indexOf((char) (token[1] - 1000)) < 0) return fails(token, 1);
                char c = (char) (token[1] - 1000);
                boolean isSwell = "psdlm".indexOf(c) >= 0;
                if (isSwell && read.sorts.length() == 20 || c == 't' && read.sees.size() == 3
                        || c == 'h' && read.ships.size() == 6) return fails(token, 3);
                int[] most = c == 'b' ? new int[] {60, 9} : isSwell ? new int[] {30} : c == 't' ? new int[] {7, 8}
                        : new int[] {99, read.sees.size() - 1};
                int[] got = new int[2];
                for (int k = 0; k < most.length; k++) {
                    token = all.get(++at);
                    if (!in(token[1], 0, 99)) return fails(token, 1);
                    if (token[1] > most[k]) return fails(token, 2);
                    got[k] = token[1];
                    token = all.get(++at);
                    if (token[1] != 1000 + (k == most.length - 1 ? ';' : ',')) return fails(token, 1);
                }
                at++;
                may = put(read, c, got);
            }
            sea = read;
            acts.clear();
            return read.sorts.length();
        }

        private static String put(Sea read, char c, int[] got) {
            if (c == 'b') {
                read.depth = got[0];
                read.ebb = got[1];
                return "psdlm";
            }
            if (c == 't') {
                read.sees.add(got[0]);
                read.counts.add(got[1]);
                return "th$";
            }
            if (c == 'h') {
                Ship ship = new Ship();
                ship.draught = got[0];
                ship.tower = got[1];
                read.order.add(read.ships.size());
                read.ships.add(ship);
                return "h$";
            }
            read.sorts += c;
            read.heights.add(got[0]);
            return "psdlmt";
        }

        private int fails(int[] token, int number) {
            fault = number;
            return -1000100 - token[0];
        }

        int waves(int n) {
            if (sea == null) return STATE;
            if (!in(n, 1, 24)) return BAD;
            if (sea.wave + n > 999) return FULL;
            for (int k = 0; k < n; k++) {
                act();
                sea.come();
            }
            return sea.wave;
        }

        int slip(int t, int by) {
            if (!isTower(t) || !in(by, -9, 9)) return BAD;
            act();
            sea.counts.set(t, Math.max(0, sea.counts.get(t) + by));
            return sea.counts.get(t);
        }

        int law(int k) {
            if (sea == null) return STATE;
            if (!in(k, 2, 12)) return BAD;
            act();
            int was = sea.law;
            sea.law = k;
            return was;
        }

        int change(int a, int b) {
            if (!isShip(a) || !isShip(b) || a == b) return BAD;
            act();
            int i = sea.order.indexOf(a);
            int j = sea.order.indexOf(b);
            sea.order.set(i, b);
            sea.order.set(j, a);
            return j;
        }

        int heeds(int s, int t) {
            if (!isShip(s) || !isTower(t)) return BAD;
            Ship ship = sea.ships.get(s);
            if (ship.fate != 0) return STATE;
            act();
            int was = ship.tower;
            sea.ships.get(s).tower = t;
            return was;
        }

        int undo() {
            if (acts.isEmpty()) return STATE;
            sea = acts.removeLast();
            return acts.size();
        }

        int ship(int s, int what) {
            if (!isShip(s) || !in(what, 0, 4)) return BAD;
            Ship ship = sea.ships.get(s);
            return new int[] {ship.draught, ship.tower, sea.order.indexOf(s), ship.fate, ship.crossed}[what];
        }

        int tower(int t, int what) {
            if (!isTower(t) || !in(what, 0, 2)) return BAD;
            int many = 0;
            for (Ship ship : sea.ships) many += ship.fate == 0 && ship.tower == t ? 1 : 0;
            return new int[] {sea.sees.get(t), sea.counts.get(t), many}[what];
        }

        int wave(int w, int what) {
            if (sea == null) return STATE;
            if (!in(w, 0, 1199) || !in(what, 0, 3)) return BAD;
            return new int[] {sea.height(w), Sea.lift(sea.sort(w), sea.height(w)), sea.water(w),
                "psdlm".indexOf(sea.sort(w)) + 1}[what];
        }

        int ahead(int n, int what) {
            if (sea == null) return STATE;
            if (!in(n, 0, 200) || !in(what, 0, 1)) return BAD;
            return sea.behind(n).fates(what + 1);
        }

        int shipAhead(int s, int n, int what) {
            if (!isShip(s) || !in(n, 0, 200) || !in(what, 0, 1)) return BAD;
            Ship ship = sea.behind(n).ships.get(s);
            return what == 0 ? ship.fate : ship.crossed;
        }

        int towerAhead(int t, int n) {
            if (!isTower(t) || !in(n, 0, 200)) return BAD;
            return sea.behind(n).counts.get(t);
        }

        int called(int t, int i) {
            if (!isTower(t) || i < 0) return BAD;
            List<Integer> all = new ArrayList<>();
            Sea s = sea.twin();
            for (int k = 0; k < 200; k++) {
                if (Sea.comesTo(s.counts.get(t), Sea.step(s.sort(s.wave), s.sees.get(t)), s.law)) all.add(s.wave);
                s.come();
            }
            return i < all.size() ? all.get(i) : NONE;
        }

        int fit(int s, int i) {
            if (!isShip(s) || i < 0) return BAD;
            List<Integer> all = new ArrayList<>();
            for (int w = sea.wave; w < sea.wave + 100; w++) {
                if (sea.water(w) >= sea.ships.get(s).draught) all.add(w);
            }
            return i < all.size() ? all.get(i) : NONE;
        }

        int highest(int n, int what) {
            if (sea == null) return STATE;
            if (!in(n, 1, 100) || !in(what, 0, 1)) return BAD;
            int most = -1, first = -1;
            for (int w = sea.wave + n - 1; w >= sea.wave; w--) {
                if (sea.water(w) >= most) {
                    most = sea.water(w);
                    first = w;
                }
            }
            return what == 0 ? first : most;
        }

        int order(int n, int k) {
            if (sea == null) return STATE;
            if (!in(n, 1, 60) || !in(k, -1, sea.ships.size() - 1)) return BAD;
            List<List<Integer>> all = new ArrayList<>();
            permute(new ArrayList<>(), all);
            int most = -1;
            List<Integer> best = null;
            for (List<Integer> one : all) {
                Sea s = sea.twin();
                s.order = one;
                int over = s.behind(n).fates(1);
                if (over > most) {
                    most = over;
                    best = one;
                }
            }
            return k < 0 ? most : best.get(k);
        }

        private void permute(List<Integer> begun, List<List<Integer>> all) {
            if (begun.size() == sea.ships.size()) {
                all.add(new ArrayList<>(begun));
                return;
            }
            for (int s = 0; s < sea.ships.size(); s++) {
                if (!begun.contains(s)) {
                    begun.add(s);
                    permute(begun, all);
                    begun.remove(begun.size() - 1);
                }
            }
        }

        int laws(int n, int what) {
            if (sea == null) return STATE;
            if (!in(n, 1, 200) || !in(what, 0, 1)) return BAD;
            int best = 0, most = -1;
            for (int k = 12; k >= 2; k--) {
                Sea s = sea.twin();
                s.law = k;
                int over = s.behind(n).fates(1);
                if (over >= most) {
                    most = over;
                    best = k;
                }
            }
            return what == 0 ? best : most;
        }

        int bribe(int s, int what) {
            if (!isShip(s) || !in(what, 0, 2)) return BAD;
            if (sea.ships.get(s).fate != 0) return STATE;
            int[] best = null;
            for (int by = 4; by >= -4; by--) {
                Sea tried = sea.twin();
                int t = sea.ships.get(s).tower;
                tried.counts.set(t, Math.max(0, tried.counts.get(t) + by));
                tried = tried.behind(200);
                Ship ship = tried.ships.get(s);
                if (ship.fate == 1 && (best == null || ship.crossed <= best[1])) {
                    best = new int[] {by, ship.crossed, tried.fates(2)};
                }
            }
            return best == null ? NONE : best[what];
        }

        int heed(int s) {
            if (!isShip(s)) return BAD;
            if (sea.ships.get(s).fate != 0) return STATE;
            int best = NONE, least = Integer.MAX_VALUE;
            for (int t = 0; t < sea.sees.size(); t++) {
                Sea tried = sea.twin();
                tried.ships.get(s).tower = t;
                Ship ship = tried.behind(200).ships.get(s);
                if (ship.fate == 1 && ship.crossed < least) {
                    least = ship.crossed;
                    best = t;
                }
            }
            return best;
        }

        private static int of(List<Integer> all, int what) {
            return what == 0 ? all.size() : all.isEmpty() ? NONE : all.get(0);
        }

        int agreed(int n, int what) {
            if (sea == null) return STATE;
            if (!in(n, 1, 100) || !in(what, 0, 1)) return BAD;
            List<Integer> all = new ArrayList<>();
            Sea s = sea.twin();
            for (int k = 0; k < n; k++) {
                if (s.come() > 1) all.add(s.wave - 1);
            }
            return of(all, what);
        }

        int log(int r, int i, int n, int what) {
            if (sea == null) return STATE;
            if (!in(r, 0, 7) || !in(n, 1, 20) || !in(what, 0, 1)) return BAD;
            if (rows[r] == null) return found(1);
            if (i < 0 || (long) i + n > rows[r].length) return found(2);
            List<Integer> told = Arrays.asList(rows[r]).subList(i, i + n);
            for (int k = 0; k < n; k++) {
                if (!in(told.get(k), 0, 399) || k > 0 && told.get(k) <= told.get(k - 1)) return BAD;
            }
            List<Integer> all = new ArrayList<>();
            for (int count = 0; count <= 8; count++) {
                for (int sees = 0; sees < 8; sees++) {
                    List<Integer> calls = new ArrayList<>();
                    int c = count;
                    for (int w = 0; w <= told.get(n - 1); w++) {
                        int step = Sea.step(sea.sort(w), sees);
                        if (Sea.comesTo(c, step, sea.law)) calls.add(w);
                        c += step;
                    }
                    if (calls.equals(told)) all.add(8 * count + sees);
                }
            }
            return fine(of(all, what));
        }

        int wreck(int draught, int inches, int n, int what) {
            if (sea == null) return STATE;
            if (!in(draught, 0, 99) || !in(inches, 1, 99) || !in(n, 1, 100) || !in(what, 0, 1)) return BAD;
            List<Integer> all = new ArrayList<>();
            Sea s = sea.twin();
            for (int k = 0; k < n; k++) {
                if (s.come() > 0 && draught - s.water(s.wave - 1) == inches) all.add(s.wave - 1);
            }
            return of(all, what);
        }

        int season(int n, int seed, int what) {
            if (sea == null) return STATE;
            if (!in(n, 0, 100) || !in(seed, 1, 999999) || !in(what, 0, 1)) return BAD;
            Sea s = sea.twin();
            long x = seed;
            for (int k = 0; k < n; k++) {
                x = x * 16807L % 2147483647L;
                s.come("psdlm".charAt((int) (x % 5)), (int) (x / 5 % 31));
            }
            return s.fates(what + 1);
        }

        int image(int k) {
            if (!in(k, 0, 1)) return BAD;
            if (sea == null) return STATE;
            images[k] = sea.twin();
            return 1;
        }

        int restore(int k) {
            if (!in(k, 0, 1)) return BAD;
            if (images[k] == null) return STATE;
            sea = images[k].twin();
            acts.clear();
            return 1;
        }

        int kind(int s) {
            return isSwell(s) ? "psdlm".indexOf(sea.sort(s)) + 1 : BAD;
        }

        int as(int s, int kind) {
            if (!isSwell(s) || !in(kind, 0, 5)) return BAD;
            String[] are = {"psdlm", "psd", "s", "d", "lm", "m"};
            return are[kind].indexOf(sea.sort(s)) < 0 ? found(3) : fine(s);
        }

        int ask(int s, int what) {
            if (!isSwell(s) || !in(what, 0, 1)) return BAD;
            int h = sea.height(s);
            int lift = Sea.lift(sea.sort(s), h);
            switch (sea.sort(s)) {
                case 'p':
                    trace = what == 0 ? List.of(11, 10, 21, 20) : List.of(21, 20);
                    return what == 0 ? h + s + lift : s + lift;
                case 's':
                    trace = what == 0 ? List.of(12, 11, 10, 24, 21, 20) : List.of(24, 21, 20);
                    return what == 0 ? -(h + 2 * (s + lift)) : 2 * (s + lift);
                case 'd':
                    trace = what == 0 ? List.of(11, 10, 22, 21, 20) : List.of(22, 21, 20);
                    return what == 0 ? h + s + lift - 1000 : s + lift - 1000;
                case 'l':
                    trace = what == 0 ? List.of(13, 10) : List.of(23, 20, 13, 10);
                    return what == 0 ? h - 100 : s - (h - 100);
                default:
                    trace = what == 0 ? List.of(14, 13, 10) : List.of(23, 20, 14, 13, 10);
                    return what == 0 ? 2 * h - 200 : s - (2 * h - 200);
            }
        }

        int trace(int i) {
            return in(i, 0, trace.size() - 1) ? trace.get(i) : NONE;
        }

        int count(int what) {
            switch (what) {
                case 0:
                    int many = 0;
                    for (Integer[] row : rows) many += row == null ? 0 : 1;
                    return many;
                case 1: return sea == null ? 0 : sea.sorts.length();
                case 2: return sea == null ? 0 : sea.sees.size();
                case 3: return sea == null ? 0 : sea.ships.size();
                case 4: return sea == null ? 0 : sea.wave;
                case 5: return sea == null ? 0 : sea.law;
                case 6: return sea == null ? 0 : sea.fates(0);
                case 7: return acts.size();
                case 8: return tape.length();
                default: return BAD;
            }
        }
    }

    private final Random random;
    private final NinthWave x = new NinthWave();
    private final Model m = new Model();
    private int left = CALLS;
    private int wrong = 0;
    private final StringBuilder told = new StringBuilder();

    private ModelTest(int run) {
        random = new Random(run * 7919L + 17);
    }

    private void same(String call, int got, int want) {
        left--;
        told.append("  ").append(call).append(" -> ").append(got).append('\n');
        if (got != want) {
            wrong++;
            System.out.println(call + " answered " + got + ", the model " + want + ", behind\n" + told);
        }
    }

    /** Mostly a number from a to b, at times one just outside, or far. */
    private int draw(int a, int b) {
        int die = random.nextInt(60);
        if (die == 0) return a - 1;
        if (die == 1) return b + 1;
        if (die == 2) return random.nextBoolean() ? Integer.MAX_VALUE : Integer.MIN_VALUE;
        if (die == 3) return a;
        if (die == 4) return b;
        return a + random.nextInt(Math.max(1, b - a + 1));
    }

    private String text() {
        StringBuilder s = new StringBuilder();
        s.append('b').append(random.nextInt(61)).append(',').append(random.nextInt(10)).append(';');
        int swells = 1 + random.nextInt(random.nextInt(10) == 0 ? 20 : 8);
        for (int k = 0; k < swells; k++) {
            s.append("psdlm".charAt(random.nextInt(5))).append(random.nextInt(31)).append(';');
        }
        int towers = 1 + random.nextInt(3);
        for (int k = 0; k < towers; k++) {
            s.append('t').append(random.nextInt(8)).append(',').append(random.nextInt(9)).append(';');
        }
        int ships = random.nextInt(7);
        for (int k = 0; k < ships; k++) {
            s.append('h').append(10 + random.nextInt(55)).append(',').append(random.nextInt(towers)).append(';');
        }
        return s.toString();
    }

    private String spoilt(String text) {
        StringBuilder s = new StringBuilder(text);
        int times = 1 + random.nextInt(2);
        for (int k = 0; k < times && s.length() > 0; k++) {
            int at = random.nextInt(s.length());
            int how = random.nextInt(4);
            String signs = "0123456789,;psdlmthbxA ";
            char c = signs.charAt(random.nextInt(signs.length()));
            if (how == 0) s.deleteCharAt(at);
            else if (how == 1) s.insert(at, c);
            else if (how == 2) s.setCharAt(at, c);
            else s.setLength(at);
        }
        return s.toString();
    }

    private void read(String text) {
        for (int i = 0; i < text.length() && left > 1; i++) {
            int c = text.charAt(i);
            same("feed(" + c + ")", x.feed(c), m.feed(c));
        }
        same("sea()", x.sea(), m.sea());
        same("fault()", x.fault(), m.fault);
    }

    /** A row with what a tower of the sea as it is would have logged, at times with one wave wrong. */
    private void logged() {
        if (m.sea == null) return;
        int c = random.nextInt(9), sees = random.nextInt(8), n = 1 + random.nextInt(5), r = random.nextInt(3);
        List<Integer> calls = new ArrayList<>();
        for (int w = 0; w < 400 && calls.size() < n; w++) {
            int step = Sea.step(m.sea.sort(w), sees);
            if (Sea.comesTo(c, step, m.sea.law)) calls.add(random.nextInt(25) == 0 ? w + 1 : w);
            c += step;
        }
        int lane = 1 + random.nextInt(2);
        same("row(" + r + "," + lane + "," + n + ")", x.row(r, lane, n), m.row(r, lane, n));
        for (int i = 0; i < calls.size(); i++) {
            int v = calls.get(i);
            same("set(" + r + "," + i + "," + v + ")", x.set(r, i, v), m.set(r, i, v));
        }
        int k = 1 + random.nextInt(n);
        same("log(" + r + ",0," + k + ",0)", x.log(r, 0, k, 0), m.log(r, 0, k, 0));
        same("log(" + r + ",0," + k + ",1)", x.log(r, 0, k, 1), m.log(r, 0, k, 1));
    }

    private void rowCalls() {
        int a = draw(0, 3), b = draw(0, 3), i = draw(0, 6), j = draw(0, 6), n = draw(0, 8);
        switch (random.nextInt(6)) {
            case 0: same("row(" + a + "," + (i % 4) + "," + n * 3 + ")", x.row(a, i % 4, n * 3), m.row(a, i % 4, n * 3)); break;
            case 1: case 2:
                int v = random.nextBoolean() ? random.nextInt() : random.nextInt(500) - 50;
                same("set(" + a + "," + i + "," + v + ")", x.set(a, i, v), m.set(a, i, v));
                break;
            case 3: same("copy(" + a + "," + i + "," + b + "," + j + "," + n + ")", x.copy(a, i, b, j, n), m.copy(a, i, b, j, n)); break;
            case 4: same("drop(" + a + ")", x.drop(a), m.drop(a)); break;
            default: same("log(" + a + "," + i + "," + n + ",0)", x.log(a, i, n, 0), m.log(a, i, n, 0));
        }
        same("status()", x.status(), m.status);
    }

    private void actCalls() {
        int ships = m.sea == null ? 1 : m.sea.ships.size() - 1, towers = m.sea == null ? 0 : m.sea.sees.size() - 1;
        int s = draw(0, ships), s2 = draw(0, ships), t = draw(0, towers);
        int n = random.nextInt(4) == 0 ? draw(1, 24) : draw(1, 4), by = draw(-9, 9), k = draw(2, 12);
        switch (random.nextInt(8)) {
            case 0: case 1: same("waves(" + n + ")", x.waves(n), m.waves(n)); break;
            case 2: same("slip(" + t + "," + by + ")", x.slip(t, by), m.slip(t, by)); break;
            case 3: same("law(" + k + ")", x.law(k), m.law(k)); break;
            case 4: same("change(" + s + "," + s2 + ")", x.change(s, s2), m.change(s, s2)); break;
            case 5: same("heeds(" + s + "," + t + ")", x.heeds(s, t), m.heeds(s, t)); break;
            case 6: same("undo()", x.undo(), m.undo()); break;
            default:
                int im = draw(0, 1);
                if (random.nextInt(3) == 0) same("restore(" + im + ")", x.restore(im), m.restore(im));
                else same("image(" + im + ")", x.image(im), m.image(im));
        }
    }

    private void views() {
        int ships = m.sea == null ? 1 : m.sea.ships.size() - 1, towers = m.sea == null ? 0 : m.sea.sees.size() - 1;
        int s = draw(0, ships), t = draw(0, towers), w5 = draw(0, 4), w3 = draw(0, 2), w4 = draw(0, 3), w = draw(0, 1199);
        int c = draw(0, 8), i = draw(0, 6);
        switch (random.nextInt(5)) {
            case 0: same("ship(" + s + "," + w5 + ")", x.ship(s, w5), m.ship(s, w5)); break;
            case 1: same("tower(" + t + "," + w3 + ")", x.tower(t, w3), m.tower(t, w3)); break;
            case 2: same("wave(" + w + "," + w4 + ")", x.wave(w, w4), m.wave(w, w4)); break;
            case 3: same("count(" + c + ")", x.count(c), m.count(c)); break;
            default: same("trace(" + i + ")", x.trace(i), m.trace(i));
        }
    }

    private void swellCalls() {
        int swells = m.sea == null ? 1 : m.sea.sorts.length() - 1;
        int s = draw(0, swells), k = draw(0, 5), what = draw(0, 1);
        same("kind(" + s + ")", x.kind(s), m.kind(s));
        same("as(" + s + "," + k + ")", x.as(s, k), m.as(s, k));
        same("status()", x.status(), m.status);
        same("ask(" + s + "," + what + ")", x.ask(s, what), m.ask(s, what));
    }

    private void foretold() {
        int ships = m.sea == null ? 1 : m.sea.ships.size() - 1, towers = m.sea == null ? 0 : m.sea.sees.size() - 1;
        int s = draw(0, ships), t = draw(0, towers), n = draw(0, 200), n1 = draw(1, 100), what = draw(0, 1);
        int i = draw(0, 12);
        switch (random.nextInt(13)) {
            case 0: same("ahead(" + n + "," + what + ")", x.ahead(n, what), m.ahead(n, what)); break;
            case 1: same("shipAhead(" + s + "," + n + "," + what + ")", x.shipAhead(s, n, what), m.shipAhead(s, n, what)); break;
            case 2: same("towerAhead(" + t + "," + n + ")", x.towerAhead(t, n), m.towerAhead(t, n)); break;
            case 3: same("called(" + t + "," + i + ")", x.called(t, i), m.called(t, i)); break;
            case 4: same("fit(" + s + "," + i + ")", x.fit(s, i), m.fit(s, i)); break;
            case 5: same("highest(" + n1 + "," + what + ")", x.highest(n1, what), m.highest(n1, what)); break;
            case 6:
                if (random.nextInt(4) == 0) {
                    int n6 = draw(1, 60), k = draw(-1, ships);
                    same("order(" + n6 + "," + k + ")", x.order(n6, k), m.order(n6, k));
                }
                break;
            case 7: same("laws(" + n + "," + what + ")", x.laws(n, what), m.laws(n, what)); break;
            case 8:
                int w3 = draw(0, 2);
                same("bribe(" + s + "," + w3 + ")", x.bribe(s, w3), m.bribe(s, w3));
                break;
            case 9: same("heed(" + s + ")", x.heed(s), m.heed(s)); break;
            case 10: same("agreed(" + n1 + "," + what + ")", x.agreed(n1, what), m.agreed(n1, what)); break;
            case 11:
                int d = draw(0, 60), inches = draw(1, 20);
                same("wreck(" + d + "," + inches + "," + n1 + "," + what + ")", x.wreck(d, inches, n1, what), m.wreck(d, inches, n1, what));
                break;
            default:
                int seed = draw(1, 999999);
                same("season(" + n1 + "," + seed + "," + what + ")", x.season(n1, seed, what), m.season(n1, seed, what));
        }
    }

    private int run() {
        if (random.nextInt(10) != 0) {
            read(text());
        }
        while (left > 30 && wrong == 0) {
            int die = random.nextInt(100);
            if (die < 1 && left > 170) read(text());
            else if (die < 3 && left > 200) read(spoilt(text()));
            else if (die < 5) logged();
            else if (die < 20) rowCalls();
            else if (die < 45) actCalls();
            else if (die < 60) views();
            else if (die < 65) swellCalls();
            else foretold();
        }
        for (int what = 0; what <= 8; what++) {
            same("count(" + what + ")", x.count(what), m.count(what));
        }
        return wrong;
    }

    public static void main(String[] args) {
        int bad = 0;
        long calls = 0;
        for (int run = 0; run < RUNS && bad < 3; run++) {
            ModelTest one = new ModelTest(run);
            bad += one.run() == 0 ? 0 : 1;
            calls += CALLS - one.left;
        }
        System.out.println(RUNS + " drawn runs, " + calls + " calls, " + bad + " runs not as the model");
        if (bad != 0) {
            System.exit(1);
        }
    }
}
