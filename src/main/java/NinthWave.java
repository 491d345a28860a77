/** A bar that ships may cross only on each ninth wave; see README.md and the document's promises. */
public final class NinthWave {
    public static final int NONE = -1000000, BAD = -1000001, STATE = -1000002, FULL = -1000003;

    // A finding is answered as FOUND less its number, a fault of a text as FAULTY less its place.
    private static final int FOUND = -1000010;
    private static final int FAULTY = -1000100;
    private static final int NULL_ROW = 1, NO_PLACE = 2, NO_KIND = 3, NO_SIZE = 4, NO_STORE = 5;

    private static final int MOST_WAVES = 999, LAST_WAVE_TOLD = 1199, LAST_WAVE_LOGGED = 399;
    private static final int LONG_VIEW = 200, SHORT_VIEW = 100, ORDER_VIEW = 60;
    private static final int LEAST_LAW = 2, MOST_LAW = 12, FIRST_LAW = 9;
    private static final int IMAGES = 2;

    private final Rows rows = new Rows();
    private final Reader reader = new Reader();
    private final Chart chart = new Chart();
    private final Chart draft = new Chart();
    private final Scene now = new Scene();
    private final Scene trial = new Scene();
    private final Acts acts = new Acts();
    private final Orders orders = new Orders();
    private final Asker asker = new Asker();
    private final Image[] images = new Image[IMAGES];
    private boolean hasSea;
    private int latestFault;
    private int finding;

    public NinthWave() {
        for (int k = 0; k < IMAGES; k++) {
            images[k] = new Image();
        }
    }

    // ---- rows

    public int row(int row, int lane, int n) {
        if (!isRow(row) || !within(lane, 0, Rows.INTS) || n > Rows.MOST_ITEMS) {
            return BAD;
        }
        if (n < 0) {
            return found(NO_SIZE);
        }
        rows.make(row, lane, n);
        return fine(n);
    }

    public int set(int row, int i, int v) {
        if (!isRow(row)) {
            return BAD;
        }
        if (rows.isMissing(row)) {
            return found(NULL_ROW);
        }
        if (!rows.hasPlaces(row, i, 1)) {
            return found(NO_PLACE);
        }
        return fine(rows.put(row, i, v));
    }

    public int copy(int a, int i, int b, int j, int n) {
        if (!isRow(a) || !isRow(b)) {
            return BAD;
        }
        if (rows.isMissing(a) || rows.isMissing(b)) {
            return found(NULL_ROW);
        }
        if (!rows.alike(a, b)) {
            return found(NO_STORE);
        }
        if (!rows.hasPlaces(a, i, n) || !rows.hasPlaces(b, j, n)) {
            return found(NO_PLACE);
        }
        rows.move(a, i, b, j, n);
        return fine(n);
    }

    public int drop(int row) {
        if (!isRow(row)) {
            return BAD;
        }
        if (rows.isMissing(row)) {
            return found(NULL_ROW);
        }
        return fine(rows.lose(row));
    }

    // ---- seas

    public int feed(int letter) {
        if (!within(letter, 0, 255)) {
            return BAD;
        }
        if (reader.isFull()) {
            return FULL;
        }
        return reader.append(letter);
    }

    public int sea() {
        boolean good = reader.read(draft, trial);
        reader.empty();
        if (!good) {
            latestFault = reader.faultNumber();
            return FAULTY - reader.faultPlace();
        }
        chart.become(draft);
        now.become(trial);
        acts.forgetAll();
        hasSea = true;
        return chart.swells;
    }

    public int fault() {
        return latestFault;
    }

    // ---- waves, what is changed

    public int waves(int n) {
        if (!hasSea) {
            return STATE;
        }
        if (!within(n, 1, Acts.MOST)) {
            return BAD;
        }
        if (now.wave + n > MOST_WAVES) {
            return FULL;
        }
        for (int k = 0; k < n; k++) {
            acts.keep(now);
            now.comeInBy(chart);
        }
        return now.wave;
    }

    public int slip(int tower, int by) {
        if (!isTower(tower) || !within(by, -9, 9)) {
            return BAD;
        }
        acts.keep(now);
        return now.slipBy(tower, by);
    }

    public int law(int k) {
        if (!hasSea) {
            return STATE;
        }
        if (!within(k, LEAST_LAW, MOST_LAW)) {
            return BAD;
        }
        int was = now.law;
        acts.keep(now);
        now.law = k;
        return was;
    }

    public int change(int a, int b) {
        if (!isShip(a) || !isShip(b) || a == b) {
            return BAD;
        }
        acts.keep(now);
        int placeOfA = now.placeOf(a);
        int placeOfB = now.placeOf(b);
        now.order[placeOfA] = b;
        now.order[placeOfB] = a;
        return placeOfB;
    }

    public int heeds(int ship, int tower) {
        if (!isShip(ship) || !isTower(tower)) {
            return BAD;
        }
        if (!now.waits(ship)) {
            return STATE;
        }
        int was = now.heeded[ship];
        acts.keep(now);
        now.heeded[ship] = tower;
        return was;
    }

    public int undo() {
        if (acts.many == 0) {
            return STATE;
        }
        acts.takeBack(now);
        return acts.many;
    }

    public int ship(int ship, int what) {
        if (!isShip(ship)) {
            return BAD;
        }
        switch (what) {
            case 0: return chart.draughts[ship];
            case 1: return now.heeded[ship];
            case 2: return now.placeOf(ship);
            case 3: return now.fates[ship];
            case 4: return now.crossings[ship];
            default: return BAD;
        }
    }

    public int tower(int tower, int what) {
        if (!isTower(tower)) {
            return BAD;
        }
        switch (what) {
            case 0: return chart.sees[tower];
            case 1: return now.counts[tower];
            case 2: return now.howManyWaitFor(chart, tower);
            default: return BAD;
        }
    }

    public int wave(int w, int what) {
        if (!hasSea) {
            return STATE;
        }
        if (!within(w, 0, LAST_WAVE_TOLD)) {
            return BAD;
        }
        int swell = chart.swellOf(w);
        switch (what) {
            case 0: return chart.heights[swell];
            case 1: return chart.liftOfSwell(swell);
            case 2: return chart.waterIn(w);
            case 3: return chart.kinds[swell];
            default: return BAD;
        }
    }

    // ---- foretold

    public int ahead(int n, int what) {
        if (!hasSea) {
            return STATE;
        }
        if (!within(n, 0, LONG_VIEW) || !within(what, 0, 1)) {
            return BAD;
        }
        foretell(n);
        return trial.howMany(chart, what == 0 ? Scene.OVER : Scene.STRUCK);
    }

    public int shipAhead(int ship, int n, int what) {
        if (!isShip(ship) || !within(n, 0, LONG_VIEW) || !within(what, 0, 1)) {
            return BAD;
        }
        foretell(n);
        return what == 0 ? trial.fates[ship] : trial.crossings[ship];
    }

    public int towerAhead(int tower, int n) {
        if (!isTower(tower) || !within(n, 0, LONG_VIEW)) {
            return BAD;
        }
        foretell(n);
        return trial.counts[tower];
    }

    public int called(int tower, int i) {
        if (!isTower(tower) || i < 0) {
            return BAD;
        }
        int count = now.counts[tower];
        int left = i;
        for (int w = now.wave; w < now.wave + LONG_VIEW; w++) {
            int step = chart.stepOf(tower, chart.kindIn(w));
            if (calls(count, step, now.law)) {
                if (left == 0) {
                    return w;
                }
                left--;
            }
            count += step;
        }
        return NONE;
    }

    public int fit(int ship, int i) {
        if (!isShip(ship) || i < 0) {
            return BAD;
        }
        int left = i;
        for (int w = now.wave; w < now.wave + SHORT_VIEW; w++) {
            if (chart.waterIn(w) >= chart.draughts[ship]) {
                if (left == 0) {
                    return w;
                }
                left--;
            }
        }
        return NONE;
    }

    public int highest(int n, int what) {
        if (!hasSea) {
            return STATE;
        }
        if (!within(n, 1, SHORT_VIEW) || !within(what, 0, 1)) {
            return BAD;
        }
        int best = now.wave;
        int most = chart.waterIn(best);
        for (int w = now.wave + 1; w < now.wave + n; w++) {
            int water = chart.waterIn(w);
            if (water > most) {
                best = w;
                most = water;
            }
        }
        return what == 0 ? best : most;
    }

    public int order(int n, int k) {
        if (!hasSea) {
            return STATE;
        }
        if (!within(n, 1, ORDER_VIEW) || !within(k, -1, chart.ships - 1)) {
            return BAD;
        }
        orders.listen(chart, now, n);
        orders.search(chart, now);
        return k >= 0 ? orders.best[k] : orders.mostOver + now.howMany(chart, Scene.OVER);
    }

    public int laws(int n, int what) {
        if (!hasSea) {
            return STATE;
        }
        if (!within(n, 1, LONG_VIEW) || !within(what, 0, 1)) {
            return BAD;
        }
        int best = LEAST_LAW;
        int most = -1;
        for (int k = LEAST_LAW; k <= MOST_LAW; k++) {
            trial.become(now);
            trial.law = k;
            trial.pass(chart, n);
            int over = trial.howMany(chart, Scene.OVER);
            if (over > most) {
                best = k;
                most = over;
            }
        }
        return what == 0 ? best : most;
    }

    public int bribe(int ship, int what) {
        if (!isShip(ship) || !within(what, 0, 2)) {
            return BAD;
        }
        if (!now.waits(ship)) {
            return STATE;
        }
        int best = NONE;
        int soonest = NONE;
        int struck = NONE;
        for (int by = -4; by <= 4; by++) {
            trial.become(now);
            trial.slipBy(now.heeded[ship], by);
            trial.pass(chart, LONG_VIEW);
            if (trial.isOverAheadOf(ship, soonest)) {
                best = by;
                soonest = trial.crossings[ship];
                struck = trial.howMany(chart, Scene.STRUCK);
            }
        }
        return what == 0 ? best : what == 1 ? soonest : struck;
    }

    public int heed(int ship) {
        if (!isShip(ship)) {
            return BAD;
        }
        if (!now.waits(ship)) {
            return STATE;
        }
        int best = NONE;
        int soonest = NONE;
        for (int t = 0; t < chart.towers; t++) {
            trial.become(now);
            trial.heeded[ship] = t;
            trial.pass(chart, LONG_VIEW);
            if (trial.isOverAheadOf(ship, soonest)) {
                best = t;
                soonest = trial.crossings[ship];
            }
        }
        return best;
    }

    public int agreed(int n, int what) {
        if (!hasSea) {
            return STATE;
        }
        if (!within(n, 1, SHORT_VIEW) || !within(what, 0, 1)) {
            return BAD;
        }
        int many = 0;
        int first = NONE;
        trial.become(now);
        for (int w = now.wave; w < now.wave + n; w++) {
            if (trial.comeInBy(chart) >= 2) {
                first = many == 0 ? w : first;
                many++;
            }
        }
        return what == 0 ? many : first;
    }

    public int log(int row, int i, int n, int what) {
        if (!hasSea) {
            return STATE;
        }
        if (!isRow(row) || !within(n, 1, 20) || !within(what, 0, 1)) {
            return BAD;
        }
        if (rows.isMissing(row)) {
            return found(NULL_ROW);
        }
        if (!rows.hasPlaces(row, i, n)) {
            return found(NO_PLACE);
        }
        if (!rows.rises(row, i, n, LAST_WAVE_LOGGED)) {
            return BAD;
        }
        int many = 0;
        int first = NONE;
        for (int pair = 0; pair < 72; pair++) {
            if (fitsLog(pair, row, i, n)) {
                first = many == 0 ? pair : first;
                many++;
            }
        }
        return fine(what == 0 ? many : first);
    }

    public int wreck(int draught, int inches, int n, int what) {
        if (!hasSea) {
            return STATE;
        }
        if (!within(draught, 0, 99) || !within(inches, 1, 99)
                || !within(n, 1, SHORT_VIEW) || !within(what, 0, 1)) {
            return BAD;
        }
        int many = 0;
        int first = NONE;
        trial.become(now);
        for (int w = now.wave; w < now.wave + n; w++) {
            if (trial.comeInBy(chart) >= 1 && chart.waterIn(w) == draught - inches) {
                first = many == 0 ? w : first;
                many++;
            }
        }
        return what == 0 ? many : first;
    }

    public int season(int n, int seed, int what) {
        if (!hasSea) {
            return STATE;
        }
        if (!within(n, 0, SHORT_VIEW) || !within(seed, 1, 999999) || !within(what, 0, 1)) {
            return BAD;
        }
        trial.become(now);
        long x = seed;
        for (int k = 0; k < n; k++) {
            x = x * 16807 % 2147483647;
            int kind = 1 + (int) (x % 5);
            int height = (int) (x / 5 % 31);
            trial.comeIn(chart, kind, chart.depthIn(trial.wave) + Chart.liftOf(kind, height));
        }
        return trial.howMany(chart, what == 0 ? Scene.OVER : Scene.STRUCK);
    }

    public int image(int k) {
        if (!within(k, 0, IMAGES - 1)) {
            return BAD;
        }
        if (!hasSea) {
            return STATE;
        }
        images[k].keep(chart, now);
        return 1;
    }

    public int restore(int k) {
        if (!within(k, 0, IMAGES - 1)) {
            return BAD;
        }
        if (!images[k].isKept) {
            return STATE;
        }
        chart.become(images[k].chart);
        now.become(images[k].scene);
        acts.forgetAll();
        return 1;
    }

    // ---- asked

    public int kind(int swell) {
        return isSwell(swell) ? chart.kinds[swell] : BAD;
    }

    public int as(int swell, int kind) {
        if (!isSwell(swell) || !within(kind, Kinds.SWELL, Kinds.STEAMER)) {
            return BAD;
        }
        if (!Kinds.isA(chart.kinds[swell], kind)) {
            return found(NO_KIND);
        }
        return fine(swell);
    }

    public int ask(int swell, int what) {
        if (!isSwell(swell) || !within(what, Asker.SIZE, Asker.MARK)) {
            return BAD;
        }
        return asker.answer(chart, swell, what);
    }

    public int trace(int i) {
        return within(i, 0, asker.traced - 1) ? asker.bodies[i] : NONE;
    }

    public int count(int what) {
        switch (what) {
            case 0: return rows.howManyThere();
            case 1: return chart.swells;
            case 2: return chart.towers;
            case 3: return chart.ships;
            case 4: return now.wave;
            case 5: return hasSea ? now.law : 0;
            case 6: return now.howMany(chart, Scene.WAITS);
            case 7: return acts.many;
            case 8: return reader.length;
            default: return BAD;
        }
    }

    public int status() {
        return finding;
    }

    // ---- what the calls share

    private int found(int number) {
        finding = number;
        return FOUND - number;
    }

    private int fine(int answer) {
        finding = 0;
        return answer;
    }

    private void foretell(int n) {
        trial.become(now);
        trial.pass(chart, n);
    }

    /** Whether a tower that began with the pair (8 times COUNT, and SEES) calls just the waves of the log. */
    private boolean fitsLog(int pair, int row, int i, int n) {
        int count = pair / 8;
        int sees = pair % 8;
        int next = i;
        int last = rows.item(row, i + n - 1);
        for (int w = 0; w <= last; w++) {
            int step = Kinds.stepOf(sees, chart.kindIn(w));
            boolean isTold = rows.item(row, next) == w;
            if (calls(count, step, now.law) != isTold) {
                return false;
            }
            next += isTold ? 1 : 0;
            count += step;
        }
        return true;
    }

    private boolean isRow(int row) {
        return within(row, 0, Rows.MANY - 1);
    }

    // Without a sea the chart is empty, so that there is no such swell, tower or ship.
    private boolean isSwell(int swell) {
        return within(swell, 0, chart.swells - 1);
    }

    private boolean isTower(int tower) {
        return within(tower, 0, chart.towers - 1);
    }

    private boolean isShip(int ship) {
        return within(ship, 0, chart.ships - 1);
    }

    private static boolean within(int number, int least, int most) {
        return number >= least && number <= most;
    }

    /** A count that does not move calls nothing, though it may stand on a multiple of the law. */
    private static boolean calls(int count, int step, int law) {
        return law > 0 && (count + step) / law > count / law;
    }

    /** The rows 0 .. 7, of bytes, shorts or ints; all are held as ints, cut to their lane. */
    private static final class Rows {
        static final int MANY = 8, MOST_ITEMS = 40;
        static final int BYTES = 0, SHORTS = 1, INTS = 2;
        private static final int MISSING = -1;

        private final int[] lanes = new int[MANY];
        private final int[] sizes = new int[MANY];
        private final int[][] items = new int[MANY][MOST_ITEMS];

        Rows() {
            for (int r = 0; r < MANY; r++) {
                sizes[r] = MISSING;
            }
        }

        boolean isMissing(int row) {
            return sizes[row] == MISSING;
        }

        boolean alike(int a, int b) {
            return lanes[a] == lanes[b];
        }

        boolean hasPlaces(int row, int i, int n) {
            return i >= 0 && n >= 0 && i <= sizes[row] - n;
        }

        void make(int row, int lane, int n) {
            lanes[row] = lane;
            sizes[row] = n;
            for (int i = 0; i < n; i++) {
                items[row][i] = 0;
            }
        }

        int put(int row, int i, int v) {
            int cut = lanes[row] == BYTES ? (byte) v : lanes[row] == SHORTS ? (short) v : v;
            items[row][i] = cut;
            return cut;
        }

        void move(int a, int i, int b, int j, int n) {
            System.arraycopy(items[a], i, items[b], j, n);
        }

        int lose(int row) {
            int had = sizes[row];
            sizes[row] = MISSING;
            return had;
        }

        /** An item, or NONE at a place that is not there. */
        int item(int row, int i) {
            return hasPlaces(row, i, 1) ? items[row][i] : NONE;
        }

        /** Whether n items from i on are 0 to most, each more than the one ahead. */
        boolean rises(int row, int i, int n, int most) {
            int ahead = -1;
            for (int k = i; k < i + n; k++) {
                int item = items[row][k];
                if (item <= ahead || item > most) {
                    return false;
                }
                ahead = item;
            }
            return true;
        }

        int howManyThere() {
            int many = 0;
            for (int r = 0; r < MANY; r++) {
                many += isMissing(r) ? 0 : 1;
            }
            return many;
        }
    }

    /** The kinds of swells, what each is too, and how a tower counts by it. */
    private static final class Kinds {
        static final int SWELL = 0, PLAIN = 1, SPLIT = 2, DOUBLE = 3, LULL = 4, STEAMER = 5;
        static final int NO_OTHER = -1;
        private static final int[] NEXT = {NO_OTHER, SWELL, PLAIN, PLAIN, SWELL, LULL};

        private Kinds() {
        }

        /** The nearest other kind that one of this kind is, too. */
        static int next(int kind) {
            return kind >= 0 && kind < NEXT.length ? NEXT[kind] : NO_OTHER;
        }

        static boolean isA(int kind, int other) {
            int k = kind;
            for (int level = 0; level < NEXT.length && k != NO_OTHER; level++) {
                if (k == other) {
                    return true;
                }
                k = next(k);
            }
            return false;
        }

        static int stepOf(int sees, int kind) {
            switch (kind) {
                case SPLIT: return 1 + (sees & 1);
                case LULL: return sees >> 1 & 1;
                case STEAMER: return sees >> 2 & 1;
                default: return 1;
            }
        }

        /** The kind that a letter of a text tells, or NO_OTHER. */
        static int toldBy(int letter) {
            switch (letter) {
                case 'p': return PLAIN;
                case 's': return SPLIT;
                case 'd': return DOUBLE;
                case 'l': return LULL;
                case 'm': return STEAMER;
                default: return NO_OTHER;
            }
        }
    }

    /** What a text tells of a sea that no act changes. */
    private static final class Chart {
        static final int MOST_SWELLS = 20, MOST_TOWERS = 3, MOST_SHIPS = 6;

        int depth, ebb, swells, towers, ships;
        final int[] kinds = new int[MOST_SWELLS];
        final int[] heights = new int[MOST_SWELLS];
        final int[] sees = new int[MOST_TOWERS];
        final int[] draughts = new int[MOST_SHIPS];

        void become(Chart other) {
            depth = other.depth;
            ebb = other.ebb;
            swells = other.swells;
            towers = other.towers;
            ships = other.ships;
            System.arraycopy(other.kinds, 0, kinds, 0, MOST_SWELLS);
            System.arraycopy(other.heights, 0, heights, 0, MOST_SWELLS);
            System.arraycopy(other.sees, 0, sees, 0, MOST_TOWERS);
            System.arraycopy(other.draughts, 0, draughts, 0, MOST_SHIPS);
        }

        int swellOf(int w) {
            return swells > 0 && w >= 0 ? w % swells : 0;
        }

        int kindIn(int w) {
            return kinds[swellOf(w)];
        }

        int stepOf(int tower, int kind) {
            return Kinds.stepOf(sees[tower], kind);
        }

        static int liftOf(int kind, int height) {
            switch (kind) {
                case Kinds.SPLIT: return height / 2;
                case Kinds.DOUBLE: return height * 2;
                case Kinds.LULL: return 0;
                case Kinds.STEAMER: return Math.max(0, height - 5);
                default: return height;
            }
        }

        int liftOfSwell(int swell) {
            return liftOf(kinds[swell], heights[swell]);
        }

        int depthIn(int w) {
            return Math.max(0, depth - ebb * w / 10);
        }

        int waterIn(int w) {
            return depthIn(w) + liftOfSwell(swellOf(w));
        }
    }

    /** What waves and acts change in a sea. */
    private static final class Scene {
        static final int WAITS = 0, OVER = 1, STRUCK = 2;

        int wave;
        int law = FIRST_LAW;
        final int[] counts = new int[Chart.MOST_TOWERS];
        final int[] order = new int[Chart.MOST_SHIPS];
        final int[] heeded = new int[Chart.MOST_SHIPS];
        final int[] fates = new int[Chart.MOST_SHIPS];
        final int[] crossings = new int[Chart.MOST_SHIPS];

        void begin() {
            wave = 0;
            law = FIRST_LAW;
            for (int s = 0; s < Chart.MOST_SHIPS; s++) {
                order[s] = s;
                fates[s] = WAITS;
                crossings[s] = NONE;
            }
        }

        void become(Scene other) {
            wave = other.wave;
            law = other.law;
            System.arraycopy(other.counts, 0, counts, 0, Chart.MOST_TOWERS);
            System.arraycopy(other.order, 0, order, 0, Chart.MOST_SHIPS);
            System.arraycopy(other.heeded, 0, heeded, 0, Chart.MOST_SHIPS);
            System.arraycopy(other.fates, 0, fates, 0, Chart.MOST_SHIPS);
            System.arraycopy(other.crossings, 0, crossings, 0, Chart.MOST_SHIPS);
        }

        void pass(Chart chart, int n) {
            for (int k = 0; k < n; k++) {
                comeInBy(chart);
            }
        }

        int comeInBy(Chart chart) {
            return comeIn(chart, chart.kindIn(wave), chart.waterIn(wave));
        }

        /** A wave comes in: how many towers call it. */
        int comeIn(Chart chart, int kind, int water) {
            int callers = 0;
            for (int t = 0; t < chart.towers; t++) {
                int step = chart.stepOf(t, kind);
                if (calls(counts[t], step, law)) {
                    callers++;
                    cross(chart, t, water);
                }
                counts[t] += step;
            }
            wave++;
            return callers;
        }

        private void cross(Chart chart, int tower, int water) {
            for (int place = 0; place < chart.ships; place++) {
                int ship = order[place];
                if (fates[ship] == WAITS && heeded[ship] == tower) {
                    fates[ship] = water >= chart.draughts[ship] ? OVER : STRUCK;
                    crossings[ship] = wave;
                    return;
                }
            }
        }

        int slipBy(int tower, int by) {
            counts[tower] = Math.max(0, counts[tower] + by);
            return counts[tower];
        }

        boolean waits(int ship) {
            return fates[ship] == WAITS;
        }

        /** Whether a ship is over, and ahead of a wave (NONE: in any wave). */
        boolean isOverAheadOf(int ship, int soonest) {
            return fates[ship] == OVER && (soonest == NONE || crossings[ship] < soonest);
        }

        int placeOf(int ship) {
            for (int place = 0; place < Chart.MOST_SHIPS; place++) {
                if (order[place] == ship) {
                    return place;
                }
            }
            return 0;
        }

        int howMany(Chart chart, int fate) {
            int many = 0;
            for (int s = 0; s < chart.ships; s++) {
                many += fates[s] == fate ? 1 : 0;
            }
            return many;
        }

        int howManyWaitFor(Chart chart, int tower) {
            int many = 0;
            for (int s = 0; s < chart.ships; s++) {
                many += fates[s] == WAITS && heeded[s] == tower ? 1 : 0;
            }
            return many;
        }
    }

    /** The latest acts that can be undone: the scene ahead of each, in a ring. */
    private static final class Acts {
        static final int MOST = 24;

        private final Scene[] ahead = new Scene[MOST];
        private int next;
        int many;

        Acts() {
            for (int k = 0; k < MOST; k++) {
                ahead[k] = new Scene();
            }
        }

        void keep(Scene scene) {
            ahead[next].become(scene);
            next = (next + 1) % MOST;
            many = Math.min(many + 1, MOST);
        }

        void takeBack(Scene scene) {
            next = (next + MOST - 1) % MOST;
            many--;
            scene.become(ahead[next]);
        }

        void forgetAll() {
            many = 0;
        }
    }

    private static final class Image {
        final Chart chart = new Chart();
        final Scene scene = new Scene();
        boolean isKept;

        void keep(Chart told, Scene standing) {
            chart.become(told);
            scene.become(standing);
            isKept = true;
        }
    }

    /**
     * The search for the best order. What towers call does not hang on the order, and the k-th ship
     * that waits for a tower crosses in the k-th wave that it calls: so the waves are gone through
     * once, not for each order.
     */
    private static final class Orders {
        private static final int MOST_ORDERS = 720;

        private final int[][] waters = new int[Chart.MOST_TOWERS][Chart.MOST_SHIPS];
        private final int[] heard = new int[Chart.MOST_TOWERS];
        private final int[] used = new int[Chart.MOST_TOWERS];
        private final int[] tried = new int[Chart.MOST_SHIPS];
        final int[] best = new int[Chart.MOST_SHIPS];
        int mostOver;

        /** Keeps the water of the first waves that each tower calls among the next n. */
        void listen(Chart chart, Scene scene, int n) {
            for (int t = 0; t < chart.towers; t++) {
                heard[t] = 0;
                int count = scene.counts[t];
                for (int w = scene.wave; w < scene.wave + n; w++) {
                    int step = chart.stepOf(t, chart.kindIn(w));
                    if (heard[t] < Chart.MOST_SHIPS && calls(count, step, scene.law)) {
                        waters[t][heard[t]] = chart.waterIn(w);
                        heard[t]++;
                    }
                    count += step;
                }
            }
        }

        /** Goes through all orders, by numbers: the first with most ships over that wait now. */
        void search(Chart chart, Scene scene) {
            mostOver = -1;
            for (int s = 0; s < chart.ships; s++) {
                tried[s] = s;
            }
            boolean isAnother = true;
            for (int k = 0; k < MOST_ORDERS && isAnother; k++) {
                int over = howManyCross(chart, scene);
                if (over > mostOver) {
                    mostOver = over;
                    System.arraycopy(tried, 0, best, 0, chart.ships);
                }
                isAnother = goOn(chart.ships);
            }
        }

        private int howManyCross(Chart chart, Scene scene) {
            int over = 0;
            for (int t = 0; t < chart.towers; t++) {
                used[t] = 0;
            }
            for (int place = 0; place < chart.ships; place++) {
                int ship = tried[place];
                int t = scene.heeded[ship];
                if (scene.waits(ship) && used[t] < heard[t]) {
                    over += waters[t][used[t]] >= chart.draughts[ship] ? 1 : 0;
                    used[t]++;
                }
            }
            return over;
        }

        /** Makes of the order tried the next one by numbers; false behind the last. */
        private boolean goOn(int ships) {
            int rise = ships - 2;
            while (rise >= 0 && tried[rise] > tried[rise + 1]) {
                rise--;
            }
            if (rise < 0) {
                return false;
            }
            int more = ships - 1;
            while (more > rise && tried[more] < tried[rise]) {
                more--;
            }
            swap(rise, more);
            int low = rise + 1;
            for (int high = ships - 1; low < high; high--) {
                swap(low, high);
                low++;
            }
            return true;
        }

        private void swap(int i, int j) {
            int kept = tried[i];
            tried[i] = tried[j];
            tried[j] = kept;
        }
    }

    /** The tape, and how a sea is read from it, token by token, up to the first fault. */
    private static final class Reader {
        private static final int MOST = 160, END = -1;
        private static final int MISPLACED = 1, NOT_AS_TOLD = 2, NO_ROOM = 3;

        private final int[] tape = new int[MOST];
        int length;
        private int place;
        private int flaw;
        private int first;
        private int second;

        boolean isFull() {
            return length >= MOST;
        }

        int append(int letter) {
            if (!isFull()) {
                tape[length] = letter;
                length++;
            }
            return length;
        }

        void empty() {
            length = 0;
        }

        int faultNumber() {
            return flaw;
        }

        int faultPlace() {
            return place;
        }

        /** Whether the tape tells a sea; if not, the chart and the scene are left half made. */
        boolean read(Chart chart, Scene scene) {
            place = 0;
            flaw = 0;
            chart.swells = 0;
            chart.towers = 0;
            chart.ships = 0;
            scene.begin();
            return readBar(chart) && readSwells(chart) && readTowers(chart, scene)
                    && readShips(chart, scene) && isAtEnd();
        }

        private boolean readBar(Chart chart) {
            if (!passes('b') || !readPair(60, 9)) {
                return false;
            }
            chart.depth = first;
            chart.ebb = second;
            return true;
        }

        private boolean readSwells(Chart chart) {
            for (int k = 0; k <= Chart.MOST_SWELLS && Kinds.toldBy(at(place)) != Kinds.NO_OTHER; k++) {
                if (k == Chart.MOST_SWELLS) {
                    return fails(NO_ROOM);
                }
                chart.kinds[k] = Kinds.toldBy(at(place));
                place++;
                chart.heights[k] = number(30);
                if (!passes(';')) {
                    return false;
                }
                chart.swells = k + 1;
            }
            return chart.swells > 0 || fails(MISPLACED);
        }

        private boolean readTowers(Chart chart, Scene scene) {
            for (int k = 0; k <= Chart.MOST_TOWERS && at(place) == 't'; k++) {
                if (k == Chart.MOST_TOWERS) {
                    return fails(NO_ROOM);
                }
                place++;
                if (!readPair(7, 8)) {
                    return false;
                }
                chart.sees[k] = first;
                scene.counts[k] = second;
                chart.towers = k + 1;
            }
            return chart.towers > 0 || fails(MISPLACED);
        }

        private boolean readShips(Chart chart, Scene scene) {
            for (int k = 0; k <= Chart.MOST_SHIPS && at(place) == 'h'; k++) {
                if (k == Chart.MOST_SHIPS) {
                    return fails(NO_ROOM);
                }
                place++;
                if (!readPair(99, chart.towers - 1)) {
                    return false;
                }
                chart.draughts[k] = first;
                scene.heeded[k] = second;
                chart.ships = k + 1;
            }
            return true;
        }

        /** Two numbers and their signs, behind a letter; they are left as first and second. */
        private boolean readPair(int mostOfFirst, int mostOfSecond) {
            first = number(mostOfFirst);
            if (!passes(',')) {
                return false;
            }
            second = number(mostOfSecond);
            return passes(';');
        }

        private boolean isAtEnd() {
            return at(place) == END || fails(MISPLACED);
        }

        private int at(int i) {
            return i >= 0 && i < length ? tape[i] : END;
        }

        /** The first fault stands: what is read behind it says nothing more. */
        private boolean fails(int number) {
            if (flaw == 0) {
                flaw = number;
            }
            return false;
        }

        private boolean passes(int sign) {
            if (flaw != 0) {
                return false;
            }
            if (at(place) != sign) {
                return fails(MISPLACED);
            }
            place++;
            return true;
        }

        /** The number that stands here; behind a fault, which stays where it is, 0. */
        private int number(int most) {
            int figures = 0;
            int value = 0;
            while (figures < 3 && isFigure(at(place + figures))) {
                value = 10 * value + at(place + figures) - '0';
                figures++;
            }
            if (figures == 0 || figures > 2) {
                fails(MISPLACED);
                return 0;
            }
            if (value > most) {
                fails(NOT_AS_TOLD);
                return 0;
            }
            place += figures;
            return value;
        }

        private static boolean isFigure(int letter) {
            return letter >= '0' && letter <= '9';
        }
    }

    /** What is asked of swells, by bodies that call one another, and the trace that they leave. */
    private static final class Asker {
        static final int SIZE = 0, MARK = 1;
        private static final int MOST_TRACED = 16, DEEPEST = 30, KINDS = 6;
        // The body told for a kind, kinds 0 .. 5 for SIZE, then for MARK; 0: none is told.
        private static final int[] TOLD = {10, 11, 12, 0, 13, 14, 20, 21, 24, 22, 23, 0};

        final int[] bodies = new int[MOST_TRACED];
        int traced;
        private int swellKind;
        private int height;
        private int lift;
        private int swellNumber;

        int answer(Chart chart, int swell, int what) {
            traced = 0;
            swellKind = chart.kinds[swell];
            height = chart.heights[swell];
            lift = chart.liftOfSwell(swell);
            swellNumber = swell;
            return asked(what, 0);
        }

        /** Begins the body of the nearest kind that has one. */
        private int asked(int what, int depth) {
            int k = swellKind;
            for (int level = 0; level < KINDS && k != Kinds.NO_OTHER; level++) {
                int body = TOLD[KINDS * what + k];
                if (body != 0) {
                    return given(body, depth + 1);
                }
                k = Kinds.next(k);
            }
            return 0;
        }

        private int given(int body, int depth) {
            if (depth > DEEPEST) {
                return 0;
            }
            leave(body);
            int deeper = depth + 1;
            switch (body) {
                case 10: return height;
                case 11: return given(10, deeper) + asked(MARK, deeper);
                case 12: return 0 - given(11, deeper);
                case 13: return given(10, deeper) - 100;
                case 14: return given(13, deeper) * 2;
                case 20: return swellNumber;
                case 21: return given(20, deeper) + lift;
                case 22: return given(21, deeper) - 1000;
                case 23: return given(20, deeper) - asked(SIZE, deeper);
                case 24: return given(21, deeper) * 2;
                default: return 0;
            }
        }

        private void leave(int body) {
            if (traced < MOST_TRACED) {
                bodies[traced] = body;
                traced++;
            }
        }
    }
}
