/** For each promise of the document: ordinary inputs, the edges that it names, wrong inputs. */
public final class PromiseTest {
    private static final int NONE = -1000000, BAD = -1000001, STATE = -1000002, FULL = -1000003;
    private static final int NULL = -1000011, PLACE = -1000012, KIND = -1000013, SIZE = -1000014, STORE = -1000015;
    private static final int MIN = Integer.MIN_VALUE, MAX = Integer.MAX_VALUE;

    /*
     * The sea of most tests. WATER: 50 44 55 39 45, then 48 41 53 36 43.
     * TOWER 0 counts 1 1 1 0 0 from 7 on: it CALLS 1, 16, 31 ..; TOWER 1 counts 1 2 1 1 1 from 7 on: 1, 8, 16 ..
     */
    private static final String BAR = "b40,5;p10;s9;d8;l7;m12;t0,7;t7,7;";
    private static final String SEA = BAR + "h50,0;h40,1;h60,1;";

    private static String promise = "";
    private static int wrong = 0;
    private static int asked = 0;

    private static void due(String call, int got, int want) {
        asked++;
        if (got != want) {
            wrong++;
            System.out.println(promise + ": " + call + " answered " + got + ", due is " + want);
        }
    }

    private static void dueAll(String call, int want, int... answers) {
        for (int i = 0; i < answers.length; i++) {
            due(call + " #" + i, answers[i], want);
        }
    }

    private static int read(NinthWave x, String text) {
        for (int i = 0; i < text.length(); i++) {
            x.feed(text.charAt(i));
        }
        return x.sea();
    }

    private static NinthWave told(String text) {
        NinthWave x = new NinthWave();
        int swells = read(x, text);
        if (swells < 1) {
            due("the text " + text, swells, 1);
        }
        return x;
    }

    private static void fill(NinthWave x, int row, int lane, int... items) {
        x.row(row, lane, items.length);
        for (int i = 0; i < items.length; i++) {
            x.set(row, i, items[i]);
        }
    }

    private static void newObject() {
        promise = "1 a new object";
        NinthWave x = new NinthWave();
        for (int what = 0; what <= 8; what++) {
            due("count " + what, x.count(what), 0);
        }
        due("status", x.status(), 0);
        due("fault", x.fault(), 0);
        due("undo", x.undo(), STATE);
        due("trace", x.trace(0), NONE);
        due("swell", x.kind(0), BAD);
        due("tower", x.tower(0, 0), BAD);
        due("ship", x.ship(0, 0), BAD);
        dueAll("no sea", STATE, x.waves(1), x.law(9), x.wave(0, 0), x.ahead(0, 0), x.highest(1, 0), x.order(1, -1),
                x.laws(1, 0), x.agreed(1, 0), x.log(0, 0, 1, 0), x.wreck(1, 1, 1, 0), x.season(0, 1, 0));
        dueAll("no sea, ahead of BAD", STATE, x.waves(0), x.law(1), x.wave(-1, 9), x.ahead(-1, 9), x.highest(0, 9),
                x.order(0, 9), x.laws(0, 9), x.agreed(0, 9), x.log(9, 0, 0, 9), x.wreck(-1, 0, 0, 9), x.season(-1, 0, 9));
        due("image", x.image(0), STATE);
        due("restore", x.restore(0), STATE);
        due("a second object is its own", new NinthWave().feed(1), 1);
        due("the tape", x.feed(1), 1);
    }

    private static void row() {
        promise = "2 row";
        NinthWave x = new NinthWave();
        due("row(0, 0, 40)", x.row(0, 0, 40), 40);
        due("row(7, 2, 0)", x.row(7, 2, 0), 0);
        due("two rows", x.count(0), 2);
        due("an item", x.set(0, 39, 5), 5);
        due("in its place", x.row(0, 1, 40), 40);
        due("two rows yet", x.count(0), 2);
        x.row(1, 1, 40);
        fill(x, 2, 1, 9);
        due("copied into itself", x.copy(0, 39, 2, 0, 1), 1);
        NinthWave y = told(SEA);
        fill(y, 0, 2, 7, 7, 7);
        due("anew", y.row(0, 2, 1), 1);
        due("0 at first: not a wave called", y.log(0, 0, 1, 0), 8);
        due("0 at first: COUNT 8", y.log(0, 0, 1, 1), 64);
        dueAll("row", BAD, x.row(-1, 0, 1), x.row(8, 0, 1), x.row(0, -1, 1), x.row(0, 3, 1), x.row(0, 0, 41),
                x.row(0, 0, MAX), x.row(8, 0, -1), x.row(0, 3, -1), x.row(MIN, 0, 0));
        due("row(0, 0, -1)", x.row(0, 0, -1), SIZE);
        due("status", x.status(), 4);
        due("row(0, 0, MIN)", x.row(0, 0, MIN), SIZE);
        due("row(3, 0, -1)", x.row(3, 0, -1), SIZE);
        due("found: no row", x.set(3, 0, 1), NULL);
        due("found: the old one stays", x.set(0, 39, 70000), 70000 - 65536);
    }

    private static void set() {
        promise = "3 set";
        NinthWave x = new NinthWave();
        x.row(0, 0, 2);
        x.row(1, 1, 2);
        x.row(2, 2, 2);
        due("byte 127", x.set(0, 0, 127), 127);
        due("byte 128", x.set(0, 0, 128), -128);
        due("byte 511", x.set(0, 1, 511), -1);
        due("byte -129", x.set(0, 1, -129), 127);
        due("short 32767", x.set(1, 0, 32767), 32767);
        due("short 32768", x.set(1, 0, 32768), -32768);
        due("short 128", x.set(1, 1, 128), 128);
        due("short MIN", x.set(1, 1, MIN), 0);
        due("int MIN", x.set(2, 1, MIN), MIN);
        due("int MAX", x.set(2, 1, MAX), MAX);
        dueAll("set", BAD, x.set(-1, 0, 0), x.set(8, 0, 0), x.set(MAX, 0, 0));
        due("missing", x.set(3, 0, 0), NULL);
        due("missing, no place", x.set(3, -1, 0), NULL);
        dueAll("no place", PLACE, x.set(0, -1, 0), x.set(0, 2, 0), x.set(0, MAX, 0), x.set(0, MIN, 0));
        x.row(4, 0, 0);
        due("a row without items", x.set(4, 0, 0), PLACE);
    }

    private static void copy() {
        promise = "4 copy";
        NinthWave x = told("b0,0;p0;t0,0;");
        x.law(2);
        fill(x, 0, 2, 1, 3, 5, 7, 9);
        x.row(1, 2, 5);
        due("all", x.copy(0, 0, 1, 0, 5), 5);
        due("all are there", x.log(1, 0, 5, 0), x.log(0, 0, 5, 0));
        due("just odd ones by even counts", x.log(1, 0, 5, 0), 40);
        due("overlapping, up", x.copy(0, 0, 0, 1, 4), 4);
        due("1 1 3 5 7", x.log(0, 1, 4, 0), 40);
        due("1 1", x.log(0, 0, 2, 0), BAD);
        fill(x, 0, 2, 9, 1, 3, 5, 7);
        due("overlapping, down", x.copy(0, 1, 0, 0, 4), 4);
        due("1 3 5 7 7", x.log(0, 0, 4, 0), 40);
        due("7 7", x.log(0, 3, 2, 0), BAD);
        due("none, at the ends", x.copy(0, 5, 1, 5, 0), 0);
        due("the last", x.copy(0, 4, 1, 4, 1), 1);
        dueAll("copy", BAD, x.copy(-1, 0, 0, 0, 0), x.copy(8, 0, 0, 0, 0), x.copy(0, 0, -1, 0, 0), x.copy(0, 0, 8, 0, 0),
                x.copy(8, 0, 3, 0, 0));
        dueAll("missing", NULL, x.copy(3, 0, 0, 0, 0), x.copy(0, 0, 3, 0, 0), x.copy(0, -1, 3, 0, 0));
        x.row(2, 1, 5);
        dueAll("two lanes", STORE, x.copy(0, 0, 2, 0, 1), x.copy(2, 0, 0, 0, 0), x.copy(0, -1, 2, 0, 0));
        dueAll("no place", PLACE, x.copy(0, -1, 1, 0, 0), x.copy(0, 0, 1, -1, 0), x.copy(0, 0, 1, 0, -1),
                x.copy(0, 1, 1, 0, 5), x.copy(0, 0, 1, 1, 5), x.copy(0, 6, 1, 0, 0), x.copy(0, 0, 1, 6, 0),
                x.copy(0, MAX, 1, 0, 1), x.copy(0, 0, 1, MAX, 1), x.copy(0, 1, 1, 1, MAX), x.copy(0, 0, 1, 0, MIN));
        due("status", x.status(), 2);
    }

    private static void drop() {
        promise = "5 drop";
        NinthWave x = new NinthWave();
        x.row(0, 0, 40);
        x.row(7, 1, 0);
        due("drop(0)", x.drop(0), 40);
        due("one row", x.count(0), 1);
        due("drop(7)", x.drop(7), 0);
        due("none", x.count(0), 0);
        due("missing", x.drop(0), NULL);
        due("status", x.status(), 1);
        due("set", x.set(0, 0, 0), NULL);
        dueAll("drop", BAD, x.drop(-1), x.drop(8));
    }

    private static void feed() {
        promise = "6 feed";
        NinthWave x = new NinthWave();
        dueAll("feed", BAD, x.feed(-1), x.feed(256), x.feed(MIN), x.feed(MAX));
        for (int k = 1; k <= 160; k++) {
            due("feed", x.feed(k % 2 == 0 ? 0 : 255), k);
        }
        due("full", x.feed(98), FULL);
        due("full, but BAD", x.feed(256), BAD);
        due("bytes", x.count(8), 160);
        due("sea", x.sea(), -1000100);
        due("empty", x.feed(98), 1);
    }

    private static void dueFault(String text, int place, int number) {
        NinthWave x = told(SEA);
        x.waves(3);
        due("the text " + text, read(x, text), -1000100 - place);
        due("fault of " + text, x.fault(), number);
        due("the tape behind " + text, x.count(8), 0);
        due("the swells behind " + text, x.count(1), 5);
        due("the ships behind " + text, x.count(3), 3);
        due("the wave behind " + text, x.count(4), 3);
        due("the acts behind " + text, x.undo(), 2);
        due("the count behind " + text, x.tower(1, 1), 10);
    }

    private static void sea() {
        promise = "7 sea";
        NinthWave x = new NinthWave();
        due("least", read(x, "b0,0;p0;t0,0;"), 1);
        due("ships", x.count(3), 0);
        due("most", read(x, "b60,9;" + "p30;".repeat(20) + "t7,8;t0,0;t1,1;" + "h99,2;".repeat(6)), 20);
        due("towers", x.count(2), 3);
        due("ships", x.count(3), 6);
        due("bytes", x.count(8), 0);
        due("a number of two figures", read(x, "b07,00;p09;t07,08;h05,00;"), 1);
        due("WATER", x.wave(0, 2), 16);
        due("COUNT", x.tower(0, 1), 8);
        read(x, SEA);
        x.waves(2);
        x.law(2);
        x.change(0, 2);
        x.ahead(200, 0);
        due("in place of the one before", read(x, SEA), 5);
        due("wave", x.count(4), 0);
        due("law", x.count(5), 9);
        due("all wait", x.count(6), 3);
        due("no act", x.undo(), STATE);
        due("as told", x.ship(0, 2), 0);
        due("count", x.tower(0, 1), 7);
        due("crossed", x.ship(0, 4), NONE);
        faults();
    }

    private static void faults() {
        dueFault("", 0, 1);
        dueFault("b", 1, 1);
        dueFault("p", 0, 1);
        dueFault("b60,9", 5, 1);
        dueFault("b60,9;", 6, 1);
        dueFault("b61,9;", 1, 2);
        dueFault("b100,0;", 1, 1);
        dueFault("b0,123;", 3, 1);
        dueFault("b0,10;", 3, 2);
        dueFault("b0;", 2, 1);
        dueFault("b,0;", 1, 1);
        dueFault("b 0,0;", 1, 1);
        dueFault("b0,0,", 4, 1);
        dueFault("b0,0;t0,0;", 5, 1);
        dueFault("b0,0;P0;t0,0;", 5, 1);
        dueFault("b0,0;p31;t0,0;", 6, 2);
        dueFault("b0,0;p0;", 8, 1);
        dueFault("b0,0;p0;h0,0;", 8, 1);
        dueFault("b0,0;p0;b0,0;", 8, 1);
        dueFault("b0,0;p0;12;", 8, 1);
        dueFault("b0,0;p0;t8,9;", 9, 2);
        dueFault("b0,0;p0;t7,9;", 11, 2);
        dueFault("b0,0;p0;t0,0;p0;", 13, 1);
        dueFault("b0,0;p0;t0,0;h99,1;", 17, 2);
        dueFault("b0,0;p0;t0,0;h100,1;", 14, 1);
        dueFault("b0,0;p0;t0,0;h0,0;t0,0;", 18, 1);
        dueFault("b0,0;p0;t0,0;h0,0;;", 18, 1);
        dueFault("b0,0;p0;t0,0;h0,0", 17, 1);
        dueFault("b0,0;p0;t0,0;" + (char) 0, 13, 1);
        dueFault("b0,0;p0;t0,0;" + (char) 255, 13, 1);
        dueFault("b0,0;p0;t0,0;1234", 13, 1);
        dueFault("b1234,0;", 1, 1);
        dueFault("b0,0;p0;t0,0;t0,0;t0,0;t0,0;", 23, 3);
        dueFault("b0,0;p0;t0,0;t0,0;t0,0;t", 23, 3);
        dueFault("b0,0;" + "p0;".repeat(20) + "p0;t0,0;", 65, 3);
        dueFault("b0,0;" + "p0;".repeat(20) + "m99;", 65, 3);
        dueFault("b0,0;" + "p0;".repeat(20) + "h0,0;", 65, 1);
        dueFault("b0,0;p0;t0,0;" + "h0,0;".repeat(7), 43, 3);
        dueFault("b0,0;p0;t0,0;" + "h0,0;".repeat(6) + "t0,0;", 43, 1);
    }

    private static void fault() {
        promise = "8 fault";
        NinthWave x = new NinthWave();
        due("before one", x.fault(), 0);
        read(x, SEA);
        due("before one, yet", x.fault(), 0);
        read(x, "b61");
        due("2", x.fault(), 2);
        read(x, SEA);
        due("the latest", x.fault(), 2);
        read(x, "b0,0;p0;t0,0;t0,0;t0,0;t");
        due("3", x.fault(), 3);
        read(x, "?");
        due("1", x.fault(), 1);
    }

    private static void waves() {
        promise = "9 waves";
        NinthWave x = told(SEA);
        due("one", x.waves(1), 1);
        due("counts", x.tower(0, 1), 8);
        due("counts", x.tower(1, 1), 8);
        due("all wait", x.count(6), 3);
        due("two", x.waves(1), 2);
        due("ship 0 struck", x.ship(0, 3), 2);
        due("in wave 1", x.ship(0, 4), 1);
        due("ship 1 over", x.ship(1, 3), 1);
        due("in wave 1, beyond 9", x.ship(1, 4), 1);
        due("ship 2 waits", x.ship(2, 3), 0);
        due("nine", x.waves(7), 9);
        due("ship 2 struck", x.ship(2, 3), 2);
        due("in wave 8", x.ship(2, 4), 8);
        due("an act each", x.count(7), 9);
        due("count 0", x.tower(0, 1), 13);
        due("count 1", x.tower(1, 1), 18);
        dueAll("waves", BAD, x.waves(0), x.waves(25), x.waves(-1), x.waves(MAX), x.waves(MIN));
        due("24", x.waves(24), 33);
        for (int k = 0; k < 40; k++) {
            x.waves(24);
        }
        due("up to 999", x.waves(6), 999);
        due("more", x.waves(1), FULL);
        due("more, but BAD", x.waves(25), BAD);
        due("undone", x.undo(), 23);
        due("more than 999 would have", x.waves(2), FULL);
        due("999", x.waves(1), 999);
        countsAlone();
    }

    /** Each kind by each SEES, and a draught that is just the water. */
    private static void countsAlone() {
        String[] kinds = {"p", "s", "d", "l", "m"};
        int[][] steps = {{1, 1, 1, 1, 1, 1, 1, 1}, {1, 2, 1, 2, 1, 2, 1, 2}, {1, 1, 1, 1, 1, 1, 1, 1},
            {0, 0, 1, 1, 0, 0, 1, 1}, {0, 0, 0, 0, 1, 1, 1, 1}};
        for (int kind = 0; kind < 5; kind++) {
            for (int sees = 0; sees < 8; sees++) {
                NinthWave x = told("b0,0;" + kinds[kind] + "9;t" + sees + ",3;");
                x.waves(1);
                due("COUNT by " + kinds[kind] + ", SEES " + sees, x.tower(0, 1), 3 + steps[kind][sees]);
            }
        }
        NinthWave just = told("b20,0;p5;t0,8;t0,8;h25,0;h26,1;");
        just.waves(1);
        due("water that is just the draught", just.ship(0, 3), 1);
        due("an inch too few", just.ship(1, 3), 2);
        NinthWave none = told("b20,0;l5;t0,0;h1,0;");
        none.waves(24);
        due("a count that stands at 0 calls nothing", none.ship(0, 3), 0);
    }

    private static void slip() {
        promise = "10 slip";
        NinthWave x = told(SEA);
        due("up", x.slip(0, 9), 16);
        due("down", x.slip(0, -9), 7);
        due("0 at least", x.slip(0, -9), 0);
        due("by 0", x.slip(0, 0), 0);
        due("the other", x.tower(1, 1), 7);
        due("acts", x.count(7), 4);
        due("a slip is no call", x.slip(1, 2), 9);
        due("all wait", x.count(6), 3);
        due("undone", x.undo(), 4);
        due("COUNT", x.tower(1, 1), 7);
        x.undo();
        x.undo();
        due("COUNT", x.tower(0, 1), 7);
        dueAll("slip", BAD, x.slip(-1, 0), x.slip(2, 0), x.slip(0, -10), x.slip(0, 10), x.slip(0, MIN), x.slip(0, MAX));
        due("no sea", new NinthWave().slip(0, 0), BAD);
    }

    private static void law() {
        promise = "11 law";
        NinthWave x = told(SEA);
        due("2", x.law(2), 9);
        due("12", x.law(12), 2);
        due("law", x.count(5), 12);
        due("acts", x.count(7), 2);
        dueAll("law", BAD, x.law(1), x.law(13), x.law(0), x.law(-9), x.law(MIN));
        due("undone", x.undo(), 1);
        due("law", x.count(5), 2);
        due("called by 2", x.called(0, 0), 0);
        x.law(3);
        due("called by 3", x.called(0, 0), 1);
    }

    private static void change() {
        promise = "12 change";
        NinthWave x = told(SEA);
        due("change(0, 2)", x.change(0, 2), 2);
        due("place of 2", x.ship(2, 2), 0);
        due("place of 1", x.ship(1, 2), 1);
        due("change(0, 1)", x.change(0, 1), 1);
        due("place of 1", x.ship(1, 2), 2);
        due("2 is ahead of 1 for tower 1", x.waves(2), 2);
        due("2 crossed", x.ship(2, 3), 2);
        due("1 waits", x.ship(1, 3), 0);
        due("one that crossed", x.change(2, 1), 2);
        due("acts", x.count(7), 5);
        due("undone", x.undo(), 4);
        due("place of 2", x.ship(2, 2), 0);
        dueAll("change", BAD, x.change(0, 0), x.change(-1, 0), x.change(0, 3), x.change(3, 0), x.change(0, -1), x.change(3, 3));
        due("no sea", new NinthWave().change(0, 1), BAD);
    }

    private static void heeds() {
        promise = "13 heeds";
        NinthWave x = told(SEA);
        due("heeds(0, 1)", x.heeds(0, 1), 0);
        due("tower", x.ship(0, 1), 1);
        due("acts", x.count(7), 1);
        due("wait for 1", x.tower(1, 2), 3);
        due("wait for 0", x.tower(0, 2), 0);
        x.waves(2);
        due("0 is first for tower 1", x.ship(0, 3), 2);
        due("it does not wait", x.heeds(0, 0), STATE);
        due("1 waits", x.heeds(1, 0), 1);
        due("undone", x.undo(), 3);
        due("tower", x.ship(1, 1), 1);
        dueAll("heeds", BAD, x.heeds(-1, 0), x.heeds(3, 0), x.heeds(1, -1), x.heeds(1, 2), x.heeds(0, 2));
    }

    private static void undo() {
        promise = "14 undo";
        NinthWave x = told(SEA);
        due("none", x.undo(), STATE);
        x.waves(9);
        due("wave 8", x.undo(), 8);
        due("2 waits", x.ship(2, 3), 0);
        due("crossed", x.ship(2, 4), NONE);
        due("count", x.tower(1, 1), 17);
        due("wave", x.count(4), 8);
        for (int k = 7; k >= 0; k--) {
            due("undo", x.undo(), k);
        }
        due("wave", x.count(4), 0);
        due("none", x.undo(), STATE);
        x.law(5);
        for (int k = 0; k < 24; k++) {
            x.slip(0, 1);
        }
        due("24 at most", x.count(7), 24);
        for (int k = 23; k >= 0; k--) {
            due("undo", x.undo(), k);
        }
        due("none", x.undo(), STATE);
        due("the oldest is forgotten", x.count(5), 5);
        due("count", x.tower(0, 1), 7);
        x.waves(24);
        x.waves(24);
        due("24 at most", x.undo(), 23);
        due("wave", x.count(4), 47);
    }

    private static void ship() {
        promise = "15 ship";
        NinthWave x = told(SEA);
        int[][] want = {{50, 0, 0, 0, NONE}, {40, 1, 1, 0, NONE}, {60, 1, 2, 0, NONE}};
        for (int s = 0; s < 3; s++) {
            for (int what = 0; what < 5; what++) {
                due("ship(" + s + ", " + what + ")", x.ship(s, what), want[s][what]);
            }
        }
        x.waves(9);
        int[][] then = {{50, 0, 0, 2, 1}, {40, 1, 1, 1, 1}, {60, 1, 2, 2, 8}};
        for (int s = 0; s < 3; s++) {
            for (int what = 0; what < 5; what++) {
                due("then ship(" + s + ", " + what + ")", x.ship(s, what), then[s][what]);
            }
        }
        dueAll("ship", BAD, x.ship(-1, 0), x.ship(3, 0), x.ship(0, -1), x.ship(0, 5), x.ship(MAX, 0), x.ship(0, MIN));
    }

    private static void tower() {
        promise = "16 tower";
        NinthWave x = told(SEA);
        int[][] want = {{0, 7, 1}, {7, 7, 2}};
        for (int t = 0; t < 2; t++) {
            for (int what = 0; what < 3; what++) {
                due("tower(" + t + ", " + what + ")", x.tower(t, what), want[t][what]);
            }
        }
        x.waves(2);
        due("COUNT", x.tower(1, 1), 10);
        due("SHIPS", x.tower(1, 2), 1);
        due("SHIPS", x.tower(0, 2), 0);
        dueAll("tower", BAD, x.tower(-1, 0), x.tower(2, 0), x.tower(0, -1), x.tower(0, 3));
    }

    private static void wave() {
        promise = "17 wave";
        NinthWave x = told(SEA);
        int[] heights = {10, 9, 8, 7, 12};
        int[] lifts = {10, 4, 16, 0, 7};
        int[] waters = {50, 44, 55, 39, 45, 48, 41, 53, 36, 43};
        for (int w = 0; w < 10; w++) {
            due("HEIGHT " + w, x.wave(w, 0), heights[w % 5]);
            due("LIFT " + w, x.wave(w, 1), lifts[w % 5]);
            due("WATER " + w, x.wave(w, 2), waters[w]);
            due("KIND " + w, x.wave(w, 3), w % 5 + 1);
        }
        x.waves(3);
        due("the same behind", x.wave(0, 2), 50);
        due("DEPTH 0 at least, then LIFT", x.wave(1195, 2), 10);
        due("the last", x.wave(1199, 2), 7);
        due("DEPTH 1", x.wave(79, 2), 1 + 7);
        due("DEPTH 0", x.wave(80, 2), 10);
        dueAll("wave", BAD, x.wave(-1, 0), x.wave(1200, 0), x.wave(0, -1), x.wave(0, 4), x.wave(MAX, 0), x.wave(MIN, 0));
        NinthWave small = told("b5,0;m5;m4;m6;s1;s30;d30;l30;t0,0;");
        int[] small1 = {0, 0, 1, 0, 15, 60, 0};
        for (int w = 0; w < 7; w++) {
            due("LIFT " + w, small.wave(w, 1), small1[w]);
        }
    }

    private static void ahead() {
        promise = "18 ahead";
        NinthWave x = told(SEA);
        int[][] want = {{0, 0, 0}, {1, 0, 0}, {2, 1, 1}, {8, 1, 1}, {9, 1, 2}, {200, 1, 2}};
        for (int[] row : want) {
            due("OVER behind " + row[0], x.ahead(row[0], 0), row[1]);
            due("STRUCK behind " + row[0], x.ahead(row[0], 1), row[2]);
        }
        due("nothing changes", x.count(4), 0);
        due("nothing changes", x.count(6), 3);
        due("no act", x.count(7), 0);
        x.waves(2);
        due("those that are, too", x.ahead(0, 0), 1);
        due("those that have, too", x.ahead(7, 1), 2);
        dueAll("ahead", BAD, x.ahead(-1, 0), x.ahead(201, 0), x.ahead(0, -1), x.ahead(0, 2), x.ahead(MAX, 0));
    }

    private static void shipAhead() {
        promise = "19 shipAhead";
        NinthWave x = told(SEA);
        due("waits", x.shipAhead(2, 8, 0), 0);
        due("NONE", x.shipAhead(2, 8, 1), NONE);
        due("struck", x.shipAhead(2, 9, 0), 2);
        due("in wave 8", x.shipAhead(2, 9, 1), 8);
        due("over", x.shipAhead(1, 200, 0), 1);
        due("in wave 1", x.shipAhead(1, 200, 1), 1);
        x.waves(3);
        due("over already", x.shipAhead(1, 0, 0), 1);
        due("in wave 1", x.shipAhead(1, 0, 1), 1);
        due("5 behind 3 are not enough", x.shipAhead(2, 5, 0), 0);
        due("6 are", x.shipAhead(2, 6, 1), 8);
        dueAll("shipAhead", BAD, x.shipAhead(-1, 0, 0), x.shipAhead(3, 0, 0), x.shipAhead(0, -1, 0),
                x.shipAhead(0, 201, 0), x.shipAhead(0, 0, -1), x.shipAhead(0, 0, 2));
    }

    private static void towerAhead() {
        promise = "20 towerAhead";
        NinthWave x = told(SEA);
        due("0", x.towerAhead(0, 0), 7);
        due("5", x.towerAhead(0, 5), 10);
        due("5", x.towerAhead(1, 5), 13);
        due("200", x.towerAhead(0, 200), 7 + 120);
        due("200", x.towerAhead(1, 200), 7 + 240);
        due("nothing changes", x.tower(1, 1), 7);
        dueAll("towerAhead", BAD, x.towerAhead(-1, 0), x.towerAhead(2, 0), x.towerAhead(0, -1), x.towerAhead(0, 201));
    }

    private static void called() {
        promise = "21 called";
        NinthWave x = told(SEA);
        due("the first of 0", x.called(0, 0), 1);
        due("the second of 0", x.called(0, 1), 16);
        due("the first of 1", x.called(1, 0), 1);
        due("the second of 1", x.called(1, 1), 8);
        x.waves(1);
        due("from now on", x.called(0, 0), 1);
        x.waves(1);
        due("from now on", x.called(0, 0), 16);
        NinthWave y = told("b0,0;p0;t0,8;");
        due("wave 0", y.called(0, 0), 0);
        due("of the next 200", y.called(0, 22), 198);
        due("no more", y.called(0, 23), NONE);
        due("no more", y.called(0, MAX), NONE);
        y.slip(0, -6);
        due("wave 6", y.called(0, 0), 6);
        NinthWave z = told("b0,0;p0;t0,7;");
        due("199, the last", z.called(0, 22), 199);
        z.slip(0, -1);
        due("200 is too late", z.called(0, 22), NONE);
        dueAll("called", BAD, x.called(-1, 0), x.called(2, 0), x.called(0, -1), x.called(0, MIN));
    }

    private static void fit() {
        promise = "22 fit";
        NinthWave x = told(SEA);
        int[] want = {0, 2, 7};
        for (int i = 0; i < 3; i++) {
            due("of 50: " + i, x.fit(0, i), want[i]);
        }
        due("of 60", x.fit(2, 0), NONE);
        x.waves(2);
        due("of one that struck, from now on", x.fit(0, 0), 2);
        NinthWave y = told("b9,0;p0;t0,0;h9,0;h10,0;");
        due("the last of 100", y.fit(0, 99), 99);
        due("no more", y.fit(0, 100), NONE);
        due("an inch too few", y.fit(1, 0), NONE);
        dueAll("fit", BAD, x.fit(-1, 0), x.fit(3, 0), x.fit(0, -1), x.fit(0, MIN));
    }

    private static void highest() {
        promise = "23 highest";
        NinthWave x = told(SEA);
        due("of 1", x.highest(1, 0), 0);
        due("of 1", x.highest(1, 1), 50);
        due("of 2", x.highest(2, 0), 0);
        due("of 3", x.highest(3, 0), 2);
        due("of 100", x.highest(100, 1), 55);
        x.waves(3);
        due("from now on", x.highest(4, 0), 5);
        due("from now on", x.highest(5, 1), 53);
        NinthWave y = told("b9,0;p1;p2;t0,0;");
        due("the first", y.highest(100, 0), 1);
        dueAll("highest", BAD, x.highest(0, 0), x.highest(101, 0), x.highest(1, -1), x.highest(1, 2), x.highest(MIN, 0));
    }

    private static void order() {
        promise = "24 order";
        NinthWave x = told(BAR + "h60,1;h50,1;h44,1;");
        due("one is over", x.order(9, -1), 1);
        due("first", x.order(9, 0), 2);
        due("then", x.order(9, 1), 0);
        due("last", x.order(9, 2), 1);
        due("none in one wave", x.order(1, -1), 0);
        due("as told, then", x.order(1, 0), 0);
        due("nothing changes", x.ship(2, 2), 2);
        x.change(0, 2);
        x.waves(2);
        due("the one that is over, too", x.order(1, -1), 1);
        due("all orders do", x.order(1, 2), 2);
        dueAll("order", BAD, x.order(0, 0), x.order(61, 0), x.order(1, -2), x.order(1, 3), x.order(MAX, 0), x.order(1, MIN));
        NinthWave none = told(BAR);
        due("no ships", none.order(60, -1), 0);
        due("no place", none.order(60, 0), BAD);
        // By LAW 2 the WATER of waves 1, 3 .. 11 is 29 27 25 23 21 20: each of six must cross in its turn.
        NinthWave six = told("b20,9;p9;t0,0;h20,0;h21,0;h23,0;h25,0;h27,0;h29,0;");
        six.law(2);
        due("six", six.order(60, -1), 6);
        int[] want = {5, 4, 3, 2, 1, 0};
        for (int k = 0; k < 6; k++) {
            due("place " + k, six.order(60, k), want[k]);
        }
        due("by ten waves five", six.order(10, -1), 5);
        int[] five = {0, 4, 3, 2, 1, 5};
        for (int k = 0; k < 6; k++) {
            due("of five, place " + k, six.order(10, k), five[k]);
        }
    }

    private static void laws() {
        promise = "25 laws";
        NinthWave x = told("b20,0;p0;p5;p9;t0,0;h29,0;");
        due("the least by which wave 2 is called first", x.laws(3, 0), 3);
        due("one", x.laws(3, 1), 1);
        due("none", x.laws(2, 1), 0);
        due("none: the least", x.laws(2, 0), 2);
        due("nothing changes", x.count(5), 9);
        x.law(3);
        x.waves(3);
        due("over already", x.laws(1, 1), 1);
        due("over already: the least", x.laws(200, 0), 2);
        NinthWave y = told("b20,0;p0;p0;p0;p0;p0;p0;p0;p0;p0;p0;p0;p9;t0,0;h29,0;");
        due("12: by 2, 3, 4, 6 it strikes ahead", y.laws(12, 0), 12);
        dueAll("laws", BAD, x.laws(0, 0), x.laws(201, 0), x.laws(1, -1), x.laws(1, 2));
    }

    private static void bribe() {
        promise = "26 bribe";
        NinthWave x = told(SEA);
        // Wave 0 has WATER 50 for ship 0: COUNT 8 calls it; 1 is then the first of tower 0.
        due("slip", x.bribe(0, 0), 1);
        due("wave", x.bribe(0, 1), 0);
        due("struck behind 200: ship 2", x.bribe(0, 2), 1);
        due("slip of 1", x.bribe(1, 0), 1);
        due("wave of 1", x.bribe(1, 1), 0);
        due("struck with 1", x.bribe(1, 2), 2);
        dueAll("60 is never over", NONE, x.bribe(2, 0), x.bribe(2, 1), x.bribe(2, 2));
        due("nothing changes", x.tower(0, 1), 7);
        x.waves(2);
        due("it does not wait", x.bribe(0, 0), STATE);
        due("it does not wait, but BAD", x.bribe(0, 3), BAD);
        dueAll("bribe", BAD, x.bribe(-1, 0), x.bribe(3, 0), x.bribe(2, -1), x.bribe(2, 3));
        // COUNT 2 less 2, 3, 4 is 0: wave 8 alone has the water.
        NinthWave y = told("b20,0;p0;p0;p0;p0;p0;p0;p0;p0;p9;t0,2;h29,0;");
        due("of several the least", y.bribe(0, 0), -4);
        due("wave 8", y.bribe(0, 1), 8);
        due("struck", y.bribe(0, 2), 0);
        NinthWave up = told("b20,0;p0;p0;p0;p0;p9;t0,0;h29,0;");
        due("4", up.bribe(0, 0), 4);
        due("wave 4", up.bribe(0, 1), 4);
        NinthWave five = told("b20,0;p0;p0;p0;p9;t0,0;h29,0;");
        due("5, for wave 3, would be too much", five.bribe(0, 0), 1);
        due("wave 7", five.bribe(0, 1), 7);
    }

    private static void heed() {
        promise = "27 heed";
        NinthWave x = told("b20,0;p0;p0;p0;p9;t0,0;t0,5;t0,5;h29,0;h20,0;h30,1;");
        due("29: towers 1, 2 call wave 3, but ship 2 heeds 1, and crosses behind it", x.heed(0), 1);
        due("20: towers 1, 2", x.heed(1), 1);
        due("30", x.heed(2), NONE);
        due("nothing changes", x.ship(0, 1), 0);
        x.change(0, 2);
        due("29: ship 2 is first of tower 1", x.heed(0), 2);
        x.waves(4);
        due("it does not wait", x.heed(2), STATE);
        due("the tower that it heeds", told("b20,0;p9;t0,0;t0,0;h20,0;").heed(0), 0);
        dueAll("heed", BAD, x.heed(-1), x.heed(3), x.heed(MIN));
    }

    private static void agreed() {
        promise = "28 agreed";
        NinthWave x = told(SEA);
        due("none in 1", x.agreed(1, 0), 0);
        due("none in 1", x.agreed(1, 1), NONE);
        due("one in 2", x.agreed(2, 0), 1);
        due("wave 1", x.agreed(2, 1), 1);
        due("two in 17", x.agreed(17, 0), 2);
        x.waves(2);
        due("from now on", x.agreed(100, 1), 16);
        due("nothing changes", x.count(4), 2);
        NinthWave three = told("b0,0;p0;t0,0;t0,0;t0,0;");
        due("by three", three.agreed(100, 0), 11);
        NinthWave one = told("b0,0;p0;t0,0;");
        due("one tower alone", one.agreed(100, 0), 0);
        dueAll("agreed", BAD, x.agreed(0, 0), x.agreed(101, 0), x.agreed(1, -1), x.agreed(1, 2));
    }

    private static void log() {
        promise = "29 log";
        NinthWave x = told(SEA);
        fill(x, 0, 2, 1, 8, 16, 24);
        // 1 and 8: with SEES 7 COUNT 7 (9 at wave 1 by 10, 18 at wave 8).
        due("1 8 16", x.log(0, 0, 3, 1), 8 * 7 + 7);
        due("1 8 16", x.log(0, 0, 3, 0), 1);
        due("1 alone: 7 by all, 6 or 7 with bit 0 ..", x.log(0, 0, 1, 0), 4 + 8);
        due("1 alone: the first", x.log(0, 0, 1, 1), 8 * 6 + 1);
        fill(x, 1, 1, 0, 1);
        due("none", x.log(1, 0, 2, 0), 0);
        due("NONE", x.log(1, 0, 2, 1), NONE);
        due("status", x.status(), 0);
        x.waves(2);
        due("from wave 0 on, always", x.log(0, 0, 1, 0), 12);
        due("no STATE of the ships: the same", x.log(0, 0, 3, 1), 63);
        fill(x, 2, 2, 0, 0, 399, 400, -1, 5);
        dueAll("BAD items", BAD, x.log(2, 0, 2, 0), x.log(2, 3, 1, 0), x.log(2, 2, 2, 0), x.log(2, 4, 1, 0), x.log(2, 4, 2, 0));
        due("399", x.log(2, 2, 1, 0), 0);
        x.row(3, 2, 40);
        for (int i = 0; i < 40; i++) {
            x.set(3, i, i);
        }
        due("20", x.log(3, 0, 20, 0), 0);
        dueAll("log", BAD, x.log(-1, 0, 1, 0), x.log(8, 0, 1, 0), x.log(0, 0, 0, 0), x.log(3, 0, 21, 0),
                x.log(0, 0, 1, -1), x.log(0, 0, 1, 2), x.log(4, 0, 0, 0));
        due("missing", x.log(4, 0, 1, 0), NULL);
        due("missing, no place", x.log(4, -1, 1, 0), NULL);
        dueAll("no place", PLACE, x.log(0, -1, 1, 0), x.log(0, 4, 1, 0), x.log(0, 3, 2, 0), x.log(0, MAX, 20, 0),
                x.log(2, 4, 3, 0));
        due("status", x.status(), 2);
        x.log(2, 0, 2, 0);
        due("status behind BAD", x.status(), 2);
        twentyLogged();
    }

    private static void twentyLogged() {
        NinthWave x = told("b0,0;p0;t0,0;");
        x.law(12);
        x.row(0, 2, 20);
        for (int i = 0; i < 20; i++) {
            x.set(0, i, 12 * i + 11);
        }
        NinthWave nine = told("b0,0;p0;t0,0;");
        fill(nine, 0, 0, 8);
        due("COUNT 0 alone, not 9", nine.log(0, 0, 1, 0), 8);
        due("twenty by LAW 12", x.log(0, 0, 20, 0), 8);
        due("COUNT 0", x.log(0, 0, 20, 1), 0);
        x.law(6);
        due("by LAW 6 there are others between", x.log(0, 0, 20, 0), 0);
        NinthWave lull = told("b0,0;l0;t0,0;");
        fill(lull, 0, 2, 399);
        due("a lull that is not seen calls nothing", lull.log(0, 0, 1, 0), 0);
    }

    private static void wreck() {
        promise = "30 wreck";
        NinthWave x = told(SEA);
        // Called: wave 1 (44), 8 (36), 16 (DEPTH 32, LIFT 4: 36).
        due("44", x.wreck(50, 6, 100, 0) > 0 ? 1 : 0, 1);
        due("the first", x.wreck(50, 6, 100, 1), 1);
        due("in 1 wave", x.wreck(50, 6, 1, 0), 0);
        due("in 2 waves", x.wreck(50, 6, 2, 0), 1);
        due("36 in 16", x.wreck(40, 4, 16, 0), 1);
        due("36 in 17", x.wreck(40, 4, 17, 0), 2);
        due("the first", x.wreck(40, 4, 17, 1), 8);
        due("55 is called by none", x.wreck(60, 5, 5, 0), 0);
        due("NONE", x.wreck(60, 5, 5, 1), NONE);
        due("fewer than 0", x.wreck(0, 1, 100, 0), 0);
        x.waves(2);
        due("from now on", x.wreck(50, 6, 20, 0), 0);
        due("no ship need wait", x.wreck(99, 63, 7, 1), 8);
        NinthWave dry = told("b0,0;p0;t0,8;");
        due("99 inches", dry.wreck(99, 99, 100, 0), 12);
        dueAll("wreck", BAD, x.wreck(-1, 1, 1, 0), x.wreck(100, 1, 1, 0), x.wreck(0, 0, 1, 0), x.wreck(0, 100, 1, 0),
                x.wreck(0, 1, 0, 0), x.wreck(0, 1, 101, 0), x.wreck(0, 1, 1, -1), x.wreck(0, 1, 1, 2));
    }

    private static void season() {
        promise = "31 season";
        // SEED 1: 16807 (d, HEIGHT 13), 282475249 (m, HEIGHT 29), 1622650073 (l) ..
        NinthWave x = told("b20,0;l0;t0,8;h46,0;h47,0;");
        due("none", x.season(0, 1, 0), 0);
        due("the first is d, HEIGHT 13: WATER 46", x.season(1, 1, 0), 1);
        due("none struck", x.season(1, 1, 1), 0);
        x.change(0, 1);
        due("47 strikes", x.season(1, 1, 1), 1);
        due("nothing changes", x.count(6), 2);
        NinthWave m = told("b20,0;l0;t4,7;h44,0;");
        due("the second is m, HEIGHT 29: WATER 44", m.season(2, 1, 0), 1);
        NinthWave few = told("b20,0;l0;t4,7;h45,0;");
        due("an inch too few", few.season(2, 1, 1), 1);
        NinthWave l = told("b20,0;p0;t2,7;h20,0;");
        due("m is not seen, then l: WATER 20", l.season(2, 1, 0) + 10 * l.season(3, 1, 0), 10);
        NinthWave far = told("b20,9;p0;t4,7;h44,0;");
        due("DEPTH 20 in wave 1", far.season(2, 1, 0), 1);
        far.waves(1);
        far.slip(0, -1);
        due("DEPTH 19 in wave 2", far.season(2, 1, 1), 1);
        // .. 984943658 (l), 1144108930 (p, HEIGHT 29)
        NinthWave fifth = told("b20,0;l0;t0,7;h49,0;");
        due("not by four", fifth.season(4, 1, 0) + fifth.season(4, 1, 1), 0);
        due("the fifth is p, HEIGHT 29: WATER 49", fifth.season(5, 1, 0), 1);
        due("an inch too few", told("b20,0;l0;t0,7;h50,0;").season(5, 1, 1), 1);
        dueAll("season", BAD, x.season(-1, 1, 0), x.season(101, 1, 0), x.season(0, 0, 0), x.season(0, 1000000, 0),
                x.season(0, 1, -1), x.season(0, 1, 2));
        due("the last seed", x.season(100, 999999, 0) + x.season(100, 999999, 1), 2);
    }

    private static void imageAndRestore() {
        promise = "32, 33 image, restore";
        NinthWave x = told(SEA);
        due("none was kept", x.restore(1), STATE);
        x.waves(2);
        x.law(5);
        x.change(1, 2);
        due("image", x.image(0), 1);
        due("acts stay", x.count(7), 4);
        due("read", read(x, "b9,0;d3;t0,0;h1,0;"), 1);
        due("the other", x.image(1), 1);
        due("restore", x.restore(0), 1);
        due("swells", x.count(1), 5);
        due("wave", x.count(4), 2);
        due("law", x.count(5), 5);
        due("no act", x.undo(), STATE);
        due("place", x.ship(1, 2), 2);
        due("fate", x.ship(0, 3), 2);
        due("crossed", x.ship(0, 4), 1);
        due("count", x.tower(1, 1), 10);
        due("water", x.wave(2, 2), 55);
        x.waves(5);
        due("restore again", x.restore(0), 1);
        due("no act", x.count(7), 0);
        due("wave", x.count(4), 2);
        due("the other", x.restore(1), 1);
        due("swells", x.count(1), 1);
        due("water", x.wave(0, 2), 15);
        due("kept anew", x.image(0), 1);
        x.waves(1);
        due("restore", x.restore(0), 1);
        due("wave", x.count(4), 0);
        dueAll("image", BAD, x.image(-1), x.image(2), x.restore(-1), x.restore(2), new NinthWave().image(2),
                new NinthWave().restore(2));
    }

    private static void kindAndAs() {
        promise = "34, 35 kind, as";
        NinthWave x = told(SEA);
        boolean[][] isA = {{true, true, false, false, false, false}, {true, true, true, false, false, false},
            {true, true, false, true, false, false}, {true, false, false, false, true, false},
            {true, false, false, false, true, true}};
        for (int swell = 0; swell < 5; swell++) {
            due("kind(" + swell + ")", x.kind(swell), swell + 1);
            for (int kind = 0; kind < 6; kind++) {
                due("as(" + swell + ", " + kind + ")", x.as(swell, kind), isA[swell][kind] ? swell : KIND);
                due("status", x.status(), isA[swell][kind] ? 0 : 3);
            }
        }
        dueAll("kind", BAD, x.kind(-1), x.kind(5), x.kind(MAX));
        dueAll("as", BAD, x.as(-1, 0), x.as(5, 0), x.as(0, -1), x.as(0, 6));
    }

    private static void dueAsk(NinthWave x, int swell, int what, int want, int... trace) {
        due("ask(" + swell + ", " + what + ")", x.ask(swell, what), want);
        for (int i = 0; i < trace.length; i++) {
            due("trace " + i + " of ask(" + swell + ", " + what + ")", x.trace(i), trace[i]);
        }
        due("the end of ask(" + swell + ", " + what + ")", x.trace(trace.length), NONE);
    }

    private static void askAndTrace() {
        promise = "36, 37 ask, trace";
        NinthWave x = told(SEA);
        dueAsk(x, 0, 0, 10 + 0 + 10, 11, 10, 21, 20);
        dueAsk(x, 1, 0, -(9 + 2 * (1 + 4)), 12, 11, 10, 24, 21, 20);
        dueAsk(x, 2, 0, 8 + 2 + 16 - 1000, 11, 10, 22, 21, 20);
        dueAsk(x, 3, 0, 7 - 100, 13, 10);
        dueAsk(x, 4, 0, 2 * (12 - 100), 14, 13, 10);
        dueAsk(x, 0, 1, 10, 21, 20);
        dueAsk(x, 1, 1, 10, 24, 21, 20);
        dueAsk(x, 2, 1, 2 + 16 - 1000, 22, 21, 20);
        dueAsk(x, 3, 1, 3 - (7 - 100), 23, 20, 13, 10);
        dueAsk(x, 4, 1, 4 + 176, 23, 20, 14, 13, 10);
        dueAll("ask", BAD, x.ask(-1, 0), x.ask(5, 0), x.ask(0, -1), x.ask(0, 2));
        due("refused: the trace stays", x.trace(4), 10);
        dueAll("trace", NONE, x.trace(-1), x.trace(5), x.trace(16), x.trace(MAX), x.trace(MIN));
    }

    private static void count() {
        promise = "38 count";
        NinthWave x = told(SEA);
        x.row(3, 0, 0);
        x.waves(2);
        x.slip(0, 1);
        x.law(4);
        x.feed(98);
        int[] want = {1, 5, 2, 3, 2, 4, 1, 4, 1};
        for (int what = 0; what < 9; what++) {
            due("count(" + what + ")", x.count(what), want[what]);
        }
        dueAll("count", BAD, x.count(-1), x.count(9), x.count(MIN), x.count(MAX));
    }

    private static void status() {
        promise = "39 status";
        NinthWave x = new NinthWave();
        due("none", x.status(), 0);
        x.drop(0);
        due("NULL", x.status(), 1);
        x.drop(8);
        x.row(0, 0, 41);
        x.log(0, 0, 1, 0);
        x.as(0, 0);
        x.waves(1);
        x.feed(1);
        x.sea();
        due("BAD, STATE, other calls change nothing", x.status(), 1);
        x.row(0, 0, 1);
        due("it had none", x.status(), 0);
        x.set(0, 1, 1);
        due("PLACE", x.status(), 2);
        x.set(0, 0, 1);
        due("it had none", x.status(), 0);
        x.row(1, 1, 1);
        x.copy(0, 0, 1, 0, 1);
        due("STORE", x.status(), 5);
        x.copy(0, 0, 0, 0, 1);
        due("it had none", x.status(), 0);
        x.row(2, 0, -1);
        due("SIZE", x.status(), 4);
        x.drop(0);
        due("it had none", x.status(), 0);
        read(x, SEA);
        x.as(0, 5);
        due("KIND", x.status(), 3);
        x.kind(0);
        x.ask(0, 0);
        due("other calls", x.status(), 3);
        x.as(0, 1);
        due("it had none", x.status(), 0);
        x.log(0, 0, 1, 0);
        due("NULL of log", x.status(), 1);
        x.log(1, 0, 1, 0);
        due("log had none", x.status(), 0);
        x.log(1, 1, 1, 0);
        due("PLACE of log", x.status(), 2);
    }

    public static void main(String[] args) {
        newObject();
        row();
        set();
        copy();
        drop();
        feed();
        sea();
        fault();
        waves();
        slip();
        law();
        change();
        heeds();
        undo();
        ship();
        tower();
        wave();
        ahead();
        shipAhead();
        towerAhead();
        called();
        fit();
        highest();
        order();
        laws();
        bribe();
        heed();
        agreed();
        log();
        wreck();
        season();
        imageAndRestore();
        kindAndAs();
        askAndTrace();
        count();
        status();
        System.out.println(asked + " answers, " + wrong + " not as due");
        if (wrong != 0) {
            System.exit(1);
        }
    }
}
