/** The edges of part 4 and of promises 32 to 39, a test for each sentence that names one. */
public final class AskedEdgeTest {
    private static void image() {
        Edges.sentence("32 image", "An IMAGE (0, 1) is kept of the SEA: 1. BAD");
        Edges.bounds(Edges.BUSY, "image(#)", (x, n) -> x.image(n), 0, 1, 1, 1);
        Edges.sentence("32 image", "STATE: no SEA; BAD ahead of it");
        for (int k = 0; k <= 1; k++) {
            int image = k;
            Edges.refused(Edges.NO_SEA, "image(" + k + ")", x -> x.image(image), Edges.STATE);
            Edges.refused(Edges.BLANK, "image(" + k + ")", x -> x.image(image), Edges.STATE);
        }
        Edges.bad(Edges.NO_SEA, "image(#)", (x, n) -> x.image(n), -1, 2, Edges.MIN, Edges.MAX);
        Edges.sentence("32 image", "it is no ACT, and changes nothing of the SEA");
        NinthWave x = Edges.BUSY.make();
        x.image(1);
        Edges.due("acts", x.count(7), 9);
        Edges.due("undone", x.undo(), 8);
        Edges.due("wave", x.count(4), 4);
    }

    /** BUSY, some of it changed, then restored. */
    private static Edges.Begin restored(int k) {
        return () -> {
            NinthWave x = Edges.BUSY.make();
            x.image(k);
            x.law(12);
            x.slip(0, -9);
            x.change(4, 5);
            x.heeds(3, 2);
            x.waves(20);
            x.restore(k);
            return x;
        };
    }

    private static void restore() {
        Edges.sentence("33 restore", "The SEA is as an IMAGE kept it: 1. BAD");
        Edges.bounds(() -> {
            NinthWave x = Edges.BUSY.make();
            x.image(1);
            return x;
        }, "restore(#)", (x, n) -> x.restore(n), 0, 1, 1, 1);
        for (int k = 0; k <= 1; k++) {
            int image = k;
            Edges.dueSame("image " + k, restored(k), () -> {
                NinthWave x = Edges.BUSY.make();
                x.image(image);
                // All acts are forgotten for others, which are undone.
                for (int n = 0; n < 24; n++) {
                    x.slip(0, 1);
                }
                for (int n = 0; n < 24; n++) {
                    x.undo();
                }
                return x;
            });
        }
        NinthWave x = restored(1).make();
        Edges.due("the wave", x.count(4), 5);
        Edges.due("the law", x.count(5), 7);
        Edges.due("the other image stays", x.restore(0), 1);
        Edges.due("its wave", x.count(4), 3);
        Edges.due("its law", x.count(5), 9);
        x.waves(3);
        Edges.due("once more", x.restore(0), 1);
        Edges.due("its wave", x.count(4), 3);
        Edges.due("kept anew", x.image(1), 1);
        Edges.due("restored", x.restore(1), 1);
        Edges.due("the wave", x.count(4), 3);
        Edges.sentence("33 restore", "(no ACT can be undone then)");
        Edges.due("acts", restored(0).make().count(7), 0);
        Edges.refused(restored(0), "undo()", y -> y.undo(), Edges.STATE);
        Edges.sentence("33 restore", "STATE: none was kept; BAD ahead of it");
        Edges.refused(Edges.BUSY, "restore(1)", y -> y.restore(1), Edges.STATE);
        Edges.refused(Edges.NO_SEA, "restore(0)", y -> y.restore(0), Edges.STATE);
        Edges.refused(Edges.NO_SEA, "restore(1)", y -> y.restore(1), Edges.STATE);
        Edges.bad(Edges.NO_SEA, "restore(#)", (y, n) -> y.restore(n), -1, 2, Edges.MIN, Edges.MAX);
        anotherSea();
    }

    private static final String SECOND = "b60,0;" + "d30;".repeat(20) + "t0,1;t0,2;t0,3;h1,0;h2,1;h3,2;h4,0;h5,1;h6,2;";

    private static void anotherSea() {
        Edges.sentence("33 restore", "The SEA is as an IMAGE kept it, also if another one stands");
        NinthWave x = Edges.told("b9,9;m9;t7,7;h9,0;");
        x.image(0);
        Edges.read(x, SECOND);
        x.image(1);
        Edges.due("restore(0)", x.restore(0), 1);
        int[][] first = {{1, 1}, {2, 1}, {3, 1}, {6, 1}};
        int[][] second = {{1, 20}, {2, 3}, {3, 6}, {6, 6}};
        for (int[] c : first) {
            Edges.due("count(" + c[0] + ") of the first", x.count(c[0]), c[1]);
        }
        Edges.due("WATER of the first", x.wave(2, 2), 12);
        Edges.due("SEES of the first", x.tower(0, 0), 7);
        Edges.due("no second swell", x.kind(1), Edges.BAD);
        Edges.due("no second tower", x.tower(1, 0), Edges.BAD);
        Edges.due("no second ship", x.ship(1, 0), Edges.BAD);
        Edges.due("kept in the other, too", x.image(1), 1);
        Edges.due("restore(1)", x.restore(1), 1);
        Edges.due("the first again", x.count(1), 1);
        Edges.due("its WATER", x.wave(2, 2), 12);
        Edges.read(x, SECOND);
        x.image(1);
        x.restore(0);
        Edges.due("restore(1)", x.restore(1), 1);
        for (int[] c : second) {
            Edges.due("count(" + c[0] + ") of the second", x.count(c[0]), c[1]);
        }
        Edges.due("the last swell", x.kind(19), 3);
        Edges.due("the last ship", x.ship(5, 0), 6);
        Edges.due("the last tower", x.tower(2, 1), 3);
        Edges.due("WATER of the second", x.wave(1199, 2), 120);
    }

    private static void kind() {
        Edges.sentence("34 kind", "The KIND of a SWELL, as told (1 to 5). BAD");
        Edges.bounds(Edges.BUSY, "kind(#)", (x, n) -> x.kind(n), 0, 1, 5, 1);
        Edges.bounds(() -> Edges.told("b0,0;m0;t0,0;"), "kind(#) of one", (x, n) -> x.kind(n), 0, 5, 0, 5);
        Edges.bounds(() -> Edges.told("b0,0;l0;" + "p0;".repeat(18) + "d0;t0,0;"), "kind(#) of twenty", (x, n) -> x.kind(n), 0, 4, 19, 3);
        Edges.bad(Edges.NO_SEA, "kind(#)", (x, n) -> x.kind(n), 0, 5);
        int[] kinds = {1, 2, 3, 4, 5, 1};
        for (int s = 0; s < 6; s++) {
            int swell = s;
            Edges.answered(Edges.BUSY, "kind(" + s + ")", x -> x.kind(swell), kinds[s]);
        }
    }

    private static void as() {
        Edges.sentence("35 as", "one of a KIND (0 .. 5): its number. BAD");
        // At 5, STEAMER, the swell is a plain one: KIND.
        Edges.bounds(Edges.BUSY, "as(0, #)", (x, n) -> x.as(0, n), 0, 0, 5, -1000010 - Edges.KIND);
        Edges.bounds(Edges.BUSY, "as(4, #), of a steamer", (x, n) -> x.as(4, n), 0, 4, 5, 4);
        Edges.bounds(Edges.BUSY, "as(#, 0)", (x, n) -> x.as(n, 0), 0, 0, 5, 5);
        Edges.bad(Edges.NO_SEA, "as(#, 0)", (x, n) -> x.as(n, 0), 0, 5);
        Edges.sentence("35 as", "BAD ahead of KIND");
        Edges.bad(Edges.BUSY, "as(#, 5)", (x, n) -> x.as(n, 5), -1, 6);
        Edges.bad(Edges.NO_SEA, "as(0, #)", (x, n) -> x.as(0, n), 1, 5, 6);
        Edges.sentence("3 KINDS", "1 PLAIN, a SWELL; 2 SPLIT, a PLAIN one; 3 DOUBLE, a PLAIN one; 4 LULL; 5 STEAMER, a LULL one");
        String[] are = {"01", "012", "013", "04", "045"};
        for (int s = 0; s < 5; s++) {
            for (int k = 0; k <= 5; k++) {
                int swell = s;
                int kind = k;
                String name = "as(" + s + ", " + k + ")";
                if (are[s].indexOf((char) ('0' + k)) >= 0) {
                    Edges.dueAndNothingElse(Edges.BUSY, name, x -> x.as(swell, kind), s, 0);
                } else {
                    Edges.found(Edges.BUSY, name, x -> x.as(swell, kind), Edges.KIND);
                }
            }
        }
    }

    private static void dueTrace(NinthWave x, String name, int... bodies) {
        for (int i = 0; i < bodies.length; i++) {
            Edges.due("trace(" + i + ") of " + name, x.trace(i), bodies[i]);
        }
        for (int i = bodies.length; i <= 17; i++) {
            Edges.due("trace(" + i + ") of " + name, x.trace(i), Edges.NONE);
        }
    }

    private static void ask() {
        Edges.sentence("36 ask", "An ASK (0, 1) of a SWELL. BAD");
        // SWELL 0: HEIGHT 12, LIFT 12. SWELL 5: HEIGHT 3, LIFT 3.
        Edges.bounds(Edges.BUSY, "ask(#, 0)", (x, n) -> x.ask(n, 0), 0, 24, 5, 11);
        Edges.bounds(Edges.BUSY, "ask(#, 1)", (x, n) -> x.ask(n, 1), 0, 12, 5, 8);
        Edges.bounds(Edges.BUSY, "ask(0, #)", (x, n) -> x.ask(0, n), 0, 24, 1, 12);
        Edges.bad(Edges.NO_SEA, "ask(#, 0)", (x, n) -> x.ask(n, 0), 0, 5);
        Edges.sentence("36 ask", "a call that is BAD leaves THE TRACE as it is");
        NinthWave refused = Edges.BUSY.make();
        refused.ask(4, 1);
        refused.ask(6, 0);
        refused.ask(0, 2);
        dueTrace(refused, "ask(4, 1)", 23, 20, 14, 13, 10);
        Edges.sentence("4 ASKS", "by BODIES, by heights 0 and 30, swells 0 and 19");
        int[][] bodies = {{11, 10, 21, 20}, {12, 11, 10, 24, 21, 20}, {11, 10, 22, 21, 20}, {13, 10}, {14, 13, 10},
            {21, 20}, {24, 21, 20}, {22, 21, 20}, {23, 20, 13, 10}, {23, 20, 14, 13, 10}};
        for (int sort = 0; sort < 5; sort++) {
            for (int height : new int[] {0, 1, 5, 30}) {
                String text = "b7,3;" + ("psdlm".charAt(sort) + "" + height + ";").repeat(20) + "t0,0;";
                NinthWave x = Edges.told(text);
                int[] lifts = {height, height / 2, 2 * height, 0, Math.max(0, height - 5)};
                for (int swell : new int[] {0, 7, 19}) {
                    int plain = swell + lifts[sort];
                    int[] sizes = {height + plain, -(height + 2 * plain), height + plain - 1000, height - 100, 2 * (height - 100)};
                    int[] marks = {plain, 2 * plain, plain - 1000, swell - sizes[3], swell - sizes[4]};
                    String name = "ask(" + swell + ", .) of " + text.substring(5, 9);
                    Edges.due("SIZE, " + name, x.ask(swell, 0), sizes[sort]);
                    dueTrace(x, "SIZE, " + name, bodies[sort]);
                    Edges.due("MARK, " + name, x.ask(swell, 1), marks[sort]);
                    dueTrace(x, "MARK, " + name, bodies[5 + sort]);
                }
            }
        }
    }

    private static void trace() {
        Edges.sentence("37 trace", "Number i of THE TRACE; NONE");
        // BUSY asked a split swell for its SIZE.
        Edges.answered(Edges.BUSY, "trace(0)", x -> x.trace(0), 12);
        Edges.answered(Edges.BUSY, "trace(5)", x -> x.trace(5), 20);
        for (int i : new int[] {6, 7, 15, 16, 17, -1, Edges.MIN, Edges.MAX}) {
            Edges.answered(Edges.BUSY, "trace(" + i + ")", x -> x.trace(i), Edges.NONE);
        }
        Edges.answered(Edges.BLANK, "trace(0)", x -> x.trace(0), Edges.NONE);
        Edges.sentence("36 ask", "THE TRACE is empty ahead of it");
        NinthWave x = Edges.BUSY.make();
        x.ask(3, 0);
        dueTrace(x, "a shorter one", 13, 10);
        for (int k = 0; k < 9; k++) {
            x.ask(1, 0);
        }
        dueTrace(x, "the latest of ten", 12, 11, 10, 24, 21, 20);
    }

    private static void count() {
        Edges.sentence("38 count", "0 ROWS .. 8 bytes on the tape. BAD");
        Edges.bounds(Edges.BUSY, "count(#)", (x, n) -> x.count(n), 0, 6, 8, 2);
        Edges.bounds(Edges.BLANK, "count(#)", (x, n) -> x.count(n), 0, 0, 8, 0);
        int[] all = {6, 6, 3, 6, 5, 7, 3, 9, 2};
        for (int what = 0; what <= 8; what++) {
            int asked = what;
            Edges.answered(Edges.BUSY, "count(" + what + ")", x -> x.count(asked), all[what]);
        }
        Edges.sentence("38 count", "5 LAW (0 without a SEA)");
        Edges.due("a new object", new NinthWave().count(5), 0);
        NinthWave x = Edges.NO_SEA.make();
        Edges.due("without a sea", x.count(5), 0);
        int[] none = {6, 0, 0, 0, 0, 0, 0, 0, 2};
        for (int what = 0; what <= 8; what++) {
            Edges.due("without a sea, count(" + what + ")", x.count(what), none[what]);
        }
        x.sea();
        Edges.read(x, "b0,0;p0;t0,0;");
        Edges.due("with a sea", x.count(5), 9);
        Edges.sentence("38 count", "its most");
        NinthWave most = Edges.told("b60,0;" + "p0;".repeat(20) + "t0,0;t0,0;t0,0;" + "h0,0;".repeat(6));
        for (int row = 0; row < 8; row++) {
            most.row(row, 0, 1);
        }
        for (int k = 0; k < 160; k++) {
            most.feed(k);
        }
        most.law(12);
        for (int k = 0; k < 41; k++) {
            most.waves(24);
        }
        most.waves(15);
        int[] full = {8, 20, 3, 6, 999, 12, 0, 24, 160};
        for (int what = 0; what <= 8; what++) {
            Edges.due("at most, count(" + what + ")", most.count(what), full[what]);
        }
    }

    private static void status() {
        Edges.sentence("39 status", "the number of its FINDING; 0: it had none, or there was none");
        Edges.due("a new object", new NinthWave().status(), 0);
        Edges.answered(Edges.BUSY, "status()", x -> x.status(), 2);
        Edges.Call[] finds = {null, x -> x.drop(4), x -> x.set(2, 40, 1), x -> x.as(0, 2), x -> x.row(0, 0, -1),
            x -> x.copy(0, 0, 1, 0, 1)};
        Edges.Call[] fine = {x -> x.row(0, 0, 1), x -> x.row(4, 2, 0), x -> x.set(2, 39, 1), x -> x.copy(2, 0, 3, 0, 0), x -> x.drop(2),
            x -> x.as(0, 1), x -> x.log(7, 0, 1, 0), x -> x.log(7, 0, 1, 1)};
        Edges.Call[] refusals = {x -> x.row(8, 0, 1), x -> x.row(0, 3, -1), x -> x.row(0, 0, 41), x -> x.set(8, 0, 1), x -> x.copy(8, 0, 0, 0, 1),
            x -> x.drop(8), x -> x.as(6, 0), x -> x.as(0, 6), x -> x.log(8, 0, 1, 0), x -> x.log(0, 0, 0, 0), x -> x.log(3, 0, 2, 0)};
        Edges.Call[] others = {x -> x.feed('b'), x -> x.feed(256), x -> x.sea(), x -> x.fault(), x -> x.waves(1), x -> x.waves(0),
            x -> x.slip(0, 1), x -> x.slip(3, 1), x -> x.law(3), x -> x.law(1), x -> x.change(0, 1), x -> x.change(0, 0),
            x -> x.heeds(3, 1), x -> x.heeds(0, 1), x -> x.undo(), x -> x.ship(0, 0), x -> x.ship(6, 0), x -> x.tower(0, 0),
            x -> x.wave(0, 0), x -> x.wave(-1, 0), x -> x.ahead(9, 0), x -> x.shipAhead(3, 9, 0), x -> x.towerAhead(0, 9),
            x -> x.called(0, 0), x -> x.called(0, 999), x -> x.fit(0, 0), x -> x.highest(9, 0), x -> x.order(9, 0), x -> x.laws(9, 0),
            x -> x.bribe(3, 0), x -> x.bribe(0, 0), x -> x.heed(3), x -> x.heed(5), x -> x.agreed(9, 0), x -> x.wreck(9, 9, 9, 0),
            x -> x.season(9, 9, 0), x -> x.image(0), x -> x.restore(0), x -> x.restore(1), x -> x.kind(0), x -> x.kind(9), x -> x.ask(0, 0),
            x -> x.ask(9, 0), x -> x.trace(0), x -> x.trace(99), x -> x.count(0), x -> x.count(9), x -> x.status()};
        for (int number = 1; number <= 5; number++) {
            for (Edges.Call c : fine) {
                NinthWave x = Edges.BUSY.make();
                Edges.due("finding " + number, finds[number].on(x), -1000010 - number);
                Edges.due("status()", x.status(), number);
                c.on(x);
                Edges.due("status() behind a call that has none", x.status(), 0);
            }
            Edges.sentence("39 status", "that was not BAD, STATE, FULL");
            dueStays(number, finds[number], refusals);
            Edges.sentence("39 status", "of the latest call with a ROW, or as()");
            dueStays(number, finds[number], others);
        }
        NinthWave x = Edges.NO_SEA.make();
        x.log(4, 0, 1, 0);
        x.log(0, 0, 1, 0);
        x.as(0, 0);
        Edges.due("STATE of log, BAD of as, without a sea", x.status(), 2);
    }

    private static void dueStays(int number, Edges.Call finding, Edges.Call[] calls) {
        for (int k = 0; k < calls.length; k++) {
            NinthWave x = Edges.BUSY.make();
            finding.on(x);
            calls[k].on(x);
            Edges.due("status() of finding " + number + " behind call " + k, x.status(), number);
        }
    }

    public static void main(String[] args) {
        image();
        restore();
        kind();
        as();
        ask();
        trace();
        count();
        status();
        Edges.end();
    }
}
