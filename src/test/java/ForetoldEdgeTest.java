import java.math.BigInteger;

/** The edges of part 3 and of promises 18 to 31, a test for each sentence that names one. */
public final class ForetoldEdgeTest {
    private static final String LULLS = "l0;".repeat(19);
    /** WATER is 65 in waves 0, 20, 40 .., by which alone a tower that sees no lull counts; else 60. */
    private static final String RARE = "b60,0;p5;" + LULLS;

    /** A sea by a law, behind so many waves (24 at most). */
    private static Edges.Begin sea(String text, int law, int waves) {
        return () -> {
            NinthWave x = Edges.told(text);
            x.law(law);
            if (waves > 0) {
                x.waves(waves);
            }
            return x;
        };
    }

    /** BUSY behind all the waves that may come in. */
    private static final Edges.Begin LATE = () -> {
        NinthWave x = Edges.BUSY.make();
        for (int k = 0; k < 41; k++) {
            x.waves(24);
        }
        x.waves(10);
        return x;
    };

    private interface Three {
        int on(NinthWave x, int a, int b);
    }

    /** Without a sea a call is STATE, whether its numbers are as told or not. */
    private static void noSea(String call, Three c, int[][] cases) {
        Edges.sentence(call, "STATE: no SEA (ahead of BAD)");
        for (int[] p : cases) {
            Edges.refused(Edges.NO_SEA, call + " with " + p[0] + ", " + p[1], x -> c.on(x, p[0], p[1]), Edges.STATE);
            Edges.refused(Edges.BLANK, call + " with " + p[0] + ", " + p[1], x -> c.on(x, p[0], p[1]), Edges.STATE);
        }
    }

    private static void ahead() {
        Edges.sentence("18 ahead", "AHEAD by n WAVES (0 to 200): how many are OVER, have STRUCK. BAD");
        Edges.bounds(Edges.BUSY, "ahead(#, 0)", (x, n) -> x.ahead(n, 0), 0, 2, 200, 4);
        Edges.bounds(Edges.BUSY, "ahead(#, 1)", (x, n) -> x.ahead(n, 1), 0, 1, 200, 2);
        Edges.bounds(Edges.BUSY, "ahead(200, #)", (x, n) -> x.ahead(200, n), 0, 4, 1, 2);
        // By LAW 11 the first call is in wave 200.
        Edges.Begin over = sea(RARE + "t0,0;h65,0;", 11, 1);
        Edges.due("199 from 1", over.make().ahead(199, 0), 0);
        Edges.due("200 from 1", over.make().ahead(200, 0), 1);
        Edges.due("none has struck", over.make().ahead(200, 1), 0);
        Edges.Begin struck = sea(RARE + "t0,0;h66,0;", 11, 1);
        Edges.due("199 from 1", struck.make().ahead(199, 1), 0);
        Edges.due("200 from 1", struck.make().ahead(200, 1), 1);
        Edges.due("200 from 0", sea(RARE + "t0,0;h65,0;", 11, 0).make().ahead(200, 0), 0);
        Edges.due("no ships", Edges.told("b0,0;p0;t0,0;").ahead(200, 0), 0);
        Edges.due("behind 999", LATE.make().ahead(200, 0), 4);
        Edges.sentence("18 ahead", "FORETOLD (nothing changes)");
        Edges.answered(Edges.BUSY, "ahead(200, 0)", x -> x.ahead(200, 0), 4);
        Edges.answered(Edges.ACTED, "ahead(200, 1)", x -> x.ahead(200, 1), 2);
        Edges.answered(LATE, "ahead(200, 1)", x -> x.ahead(200, 1), 2);
        noSea("18 ahead", (x, a, b) -> x.ahead(a, b), new int[][] {{0, 0}, {200, 1}, {-1, 0}, {201, 0}, {0, -1}, {0, 2}});
    }

    private static void shipAhead() {
        Edges.sentence("19 shipAhead", "whether it waits, is OVER, has STRUCK; the WAVE in which it CROSSED (NONE). BAD");
        Edges.bounds(Edges.BUSY, "shipAhead(#, 200, 0)", (x, n) -> x.shipAhead(n, 200, 0), 0, 1, 5, 2);
        Edges.bounds(Edges.BUSY, "shipAhead(4, #, 1)", (x, n) -> x.shipAhead(4, n, 1), 0, Edges.NONE, 200, 5);
        Edges.bounds(Edges.BUSY, "shipAhead(4, 200, #)", (x, n) -> x.shipAhead(4, 200, n), 0, 1, 1, 5);
        Edges.bad(Edges.BUSY, "shipAhead(#, 0, 0)", (x, n) -> x.shipAhead(n, 0, 0), -1, 6);
        Edges.bad(Edges.NO_SEA, "shipAhead(#, 0, 0)", (x, n) -> x.shipAhead(n, 0, 0), 0, 5);
        Edges.bad(() -> Edges.told("b0,0;p0;t0,0;"), "shipAhead(#, 0, 0)", (x, n) -> x.shipAhead(n, 0, 0), 0);
        int[][] fates = {{1, 1}, {2, 1}, {1, 0}, {1, 7}, {1, 5}, {2, 13}};
        for (int s = 0; s < 6; s++) {
            int ship = s;
            Edges.answered(Edges.BUSY, "shipAhead(" + s + ", 200, 0)", x -> x.shipAhead(ship, 200, 0), fates[s][0]);
            Edges.answered(Edges.BUSY, "shipAhead(" + s + ", 200, 1)", x -> x.shipAhead(ship, 200, 1), fates[s][1]);
        }
        NinthWave x = Edges.BUSY.make();
        Edges.due("waits behind 0", x.shipAhead(5, 0, 0), 0);
        Edges.due("NONE behind 0", x.shipAhead(5, 0, 1), Edges.NONE);
        Edges.due("waits behind 8", x.shipAhead(5, 8, 0), 0);
        Edges.due("NONE behind 8", x.shipAhead(5, 8, 1), Edges.NONE);
        Edges.due("struck behind 9", x.shipAhead(5, 9, 0), 2);
        Edges.due("crossed long ago", x.shipAhead(2, 0, 1), 0);
        Edges.Begin rare = sea(RARE + "t0,0;h65,0;", 11, 1);
        Edges.due("199 from 1", rare.make().shipAhead(0, 199, 0), 0);
        Edges.due("200 from 1", rare.make().shipAhead(0, 200, 0), 1);
        Edges.due("wave 200", rare.make().shipAhead(0, 200, 1), 200);
    }

    private static void towerAhead() {
        Edges.sentence("20 towerAhead", "the COUNT of a TOWER. BAD");
        Edges.bounds(Edges.BUSY, "towerAhead(#, 200)", (x, n) -> x.towerAhead(n, 200), 0, 211, 2, 145);
        Edges.bounds(Edges.BUSY, "towerAhead(1, #)", (x, n) -> x.towerAhead(1, n), 0, 13, 200, 180);
        Edges.bad(Edges.NO_SEA, "towerAhead(#, 0)", (x, n) -> x.towerAhead(n, 0), 0, 2);
        Edges.answered(Edges.BUSY, "towerAhead(1, 200)", x -> x.towerAhead(1, 200), 180);
        Edges.due("no ships", Edges.told("b0,0;p0;t0,8;").towerAhead(0, 200), 208);
        Edges.bad(() -> Edges.told("b0,0;p0;t0,8;"), "towerAhead(#, 0)", (x, n) -> x.towerAhead(n, 0), 1, -1);
    }

    private static void called() {
        Edges.sentence("21 called", "CALLED (i 0 on). BAD");
        Edges.bounds(Edges.BUSY, "called(#, 0)", (x, n) -> x.called(n, 0), 0, 7, 2, 7);
        Edges.bad(Edges.BUSY, "called(1, #)", (x, n) -> x.called(1, n), -1, -2, Edges.MIN);
        Edges.bad(Edges.NO_SEA, "called(#, 0)", (x, n) -> x.called(n, 0), 0, 2);
        Edges.answered(Edges.BUSY, "called(1, 0)", x -> x.called(1, 0), 5);
        Edges.answered(Edges.BUSY, "called(1, 1)", x -> x.called(1, 1), 13);
        Edges.answered(Edges.BUSY, "called(1, MAX)", x -> x.called(1, Edges.MAX), Edges.NONE);
        Edges.sentence("21 called", "the i-th WAVE from now on that a TOWER CALLS (of the next 200); NONE");
        Edges.due("wave 200 from 0", sea(RARE + "t0,0;", 11, 0).make().called(0, 0), Edges.NONE);
        Edges.due("wave 200 from 1", sea(RARE + "t0,0;", 11, 1).make().called(0, 0), 200);
        Edges.due("of 200 no other", sea(RARE + "t0,0;", 11, 1).make().called(0, 1), Edges.NONE);
        // Plain waves by LAW 2: each second wave is called, from 1 on.
        for (int now = 0; now <= 3; now++) {
            NinthWave x = sea("b0,0;p0;t0,0;", 2, now).make();
            int first = now % 2 == 0 ? now + 1 : now;
            Edges.due("the first from " + now, x.called(0, 0), first);
            Edges.due("the hundredth from " + now, x.called(0, 99), first + 198);
            Edges.due("one more from " + now, x.called(0, 100), Edges.NONE);
        }
        Edges.due("none at all", Edges.told("b0,0;l0;t0,0;").called(0, 0), Edges.NONE);
        Edges.due("behind 999 there are waves yet", LATE.make().called(0, 0) >= 999 ? 1 : 0, 1);
    }

    private static void fit() {
        Edges.sentence("22 fit", "FIT (i 0 on). BAD");
        // From wave 5 on WATER is 31 40 32 41 27 32 29 38 ..: 33 fits in 6, 8, 12; 40 in 6; 44 nowhere.
        Edges.bounds(Edges.BUSY, "fit(#, 0)", (x, n) -> x.fit(n, 0), 0, 6, 5, Edges.NONE);
        Edges.bad(Edges.BUSY, "fit(0, #)", (x, n) -> x.fit(0, n), -1, -2, Edges.MIN);
        Edges.bad(Edges.NO_SEA, "fit(#, 0)", (x, n) -> x.fit(n, 0), 0, 5);
        Edges.bad(() -> Edges.told("b0,0;p0;t0,0;"), "fit(#, 0)", (x, n) -> x.fit(n, 0), 0, -1);
        Edges.answered(Edges.BUSY, "fit(0, 1)", x -> x.fit(0, 1), 8);
        Edges.answered(Edges.BUSY, "fit(0, 2)", x -> x.fit(0, 2), 12);
        Edges.answered(Edges.BUSY, "fit(1, 0), which has struck, just enough", x -> x.fit(1, 0), 6);
        Edges.answered(Edges.BUSY, "fit(5, 0)", x -> x.fit(5, 0), Edges.NONE);
        Edges.answered(Edges.BUSY, "fit(0, MAX)", x -> x.fit(0, Edges.MAX), Edges.NONE);
        Edges.sentence("22 fit", "in which WATER is enough for it (of the next 100); NONE");
        NinthWave from0 = sea(RARE + "t0,0;h65,0;h66,0;h60,0;", 9, 0).make();
        Edges.due("80 from 0", from0.fit(0, 4), 80);
        Edges.due("100 from 0", from0.fit(0, 5), Edges.NONE);
        Edges.due("an inch too few", from0.fit(1, 0), Edges.NONE);
        Edges.due("the hundredth", from0.fit(2, 99), 99);
        Edges.due("one more", from0.fit(2, 100), Edges.NONE);
        NinthWave from1 = sea(RARE + "t0,0;h65,0;h60,0;", 9, 1).make();
        Edges.due("20 from 1", from1.fit(0, 0), 20);
        Edges.due("100 from 1", from1.fit(0, 4), 100);
        Edges.due("no more from 1", from1.fit(0, 5), Edges.NONE);
        Edges.due("the first from 1", from1.fit(1, 0), 1);
        Edges.due("the hundredth from 1", from1.fit(1, 99), 100);
        Edges.due("one more from 1", from1.fit(1, 100), Edges.NONE);
    }

    private static void highest() {
        Edges.sentence("23 highest", "HIGHEST of the next n WAVES (1 to 100); BAD");
        Edges.bounds(Edges.BUSY, "highest(#, 1)", (x, n) -> x.highest(n, 1), 1, 31, 100, 41);
        Edges.bounds(Edges.BUSY, "highest(#, 0)", (x, n) -> x.highest(n, 0), 1, 5, 100, 8);
        Edges.bounds(Edges.BUSY, "highest(100, #)", (x, n) -> x.highest(100, n), 0, 8, 1, 41);
        Edges.answered(Edges.BUSY, "highest(3, 0)", x -> x.highest(3, 0), 6);
        Edges.answered(Edges.BUSY, "highest(4, 1)", x -> x.highest(4, 1), 41);
        StringBuilder rising = new StringBuilder("b1,0;");
        for (int k = 0; k < 20; k++) {
            rising.append('p').append(k).append(';');
        }
        NinthWave x = Edges.told(rising + "t0,0;");
        for (int n = 1; n <= 100; n++) {
            Edges.due("rising, of " + n, x.highest(n, 0), Math.min(n, 20) - 1);
            Edges.due("rising, of " + n, x.highest(n, 1), Math.min(n, 20));
        }
        x.waves(7);
        for (int n = 1; n <= 13; n++) {
            Edges.due("rising from 7, of " + n, x.highest(n, 0), 7 + n - 1);
        }
        Edges.due("behind 999", LATE.make().highest(100, 1), 14);
        Edges.sentence("23 highest", "that in which WATER is most, the first");
        NinthWave alike = Edges.told("b9,0;p4;d2;s8;m9;s9;t0,0;");
        for (int w = 0; w < 10; w++) {
            Edges.due("all alike, from " + w, alike.highest(100, 0), w);
            Edges.due("all alike, from " + w, alike.highest(100, 1), 13);
            alike.waves(1);
        }
        Edges.due("the first of two", Edges.told("b9,0;p3;d2;p4;t0,0;").highest(100, 0), 1);
        Edges.due("no water at all", Edges.told("b0,0;l9;t0,0;").highest(100, 1), 0);
        noSea("23 highest", (y, a, b) -> y.highest(a, b), new int[][] {{1, 0}, {100, 1}, {0, 0}, {101, 0}, {1, -1}, {1, 2}});
    }

    private static void order() {
        Edges.sentence("24 order", "ORDER for n WAVES (1 to 60): how many (k = -1), who is in place k. BAD");
        Edges.bounds(Edges.BUSY, "order(#, -1)", (x, n) -> x.order(n, -1), 1, 3, 60, 4);
        Edges.bounds(Edges.BUSY, "order(60, #)", (x, n) -> x.order(60, n), -1, 4, 5, 5);
        Edges.Begin one = () -> Edges.told("b0,0;p0;t0,0;h9,0;");
        Edges.bounds(one, "order(60, #) of one ship", (x, n) -> x.order(60, n), -1, 0, 0, 0);
        Edges.Begin none = () -> Edges.told("b0,0;p0;t0,0;");
        Edges.bounds(none, "order(60, #) of no ship", (x, n) -> x.order(60, n), -1, 0, -1, 0);
        Edges.answered(Edges.BUSY, "order(60, -1)", x -> x.order(60, -1), 4);
        Edges.answered(Edges.ACTED, "order(1, 0)", x -> x.order(1, 0), 0);
        Edges.answered(none, "order(1, -1)", x -> x.order(1, -1), 0);
        // The plain wave is the last of twenty: by LAW 3 the first call is in wave 59.
        Edges.Begin last = sea("b60,0;" + LULLS + "p5;t0,0;h66,0;h65,0;", 3, 0);
        Edges.due("59 waves", last.make().order(59, -1), 0);
        Edges.due("59 waves, who", last.make().order(59, 0), 0);
        Edges.due("60 waves", last.make().order(60, -1), 1);
        Edges.due("60 waves, who", last.make().order(60, 0), 1);
        Edges.due("60 waves, who then", last.make().order(60, 1), 0);
        Edges.Begin later = sea(RARE + "t0,0;h66,0;h65,0;", 4, 0);
        Edges.due("wave 60 from 0", later.make().order(60, -1), 0);
        Edges.due("wave 60 from 1", sea(RARE + "t0,0;h66,0;h65,0;", 4, 1).make().order(60, -1), 1);
        noSea("24 order", (y, a, b) -> y.order(a, b), new int[][] {{1, -1}, {60, 0}, {0, 0}, {61, 0}, {1, -2}, {1, 6}});
    }

    private static void orderOfSeveral() {
        Edges.sentence("24 order", "most are OVER behind them, of several the first (by numbers, from the first place on)");
        // LAW 2: waves 1, 3, 5 with WATER 27 25 23.
        String bar = "b20,9;p7;t0,0;t0,1;";
        dueOrder("any will do", bar + "h9,0;h8,0;h7,0;", 2, 6, 3, 0, 1, 2);
        dueOrder("none will", bar + "h90,0;h91,0;h92,0;", 2, 6, 0, 0, 1, 2);
        dueOrder("the last must be the first", bar + "h9,0;h8,0;h27,0;", 2, 6, 3, 2, 0, 1);
        dueOrder("one place alone", bar + "h23,0;h27,0;h25,0;", 2, 6, 3, 1, 2, 0);
        dueOrder("the one that strikes, behind those that are over", bar + "h90,0;h25,0;h27,0;", 2, 4, 2, 2, 1, 0);
        dueOrder("one that strikes may go ahead", bar + "h90,0;h23,0;", 2, 6, 1, 0, 1);
        // Tower 1 calls waves 0, 2, 4 with WATER 27 26 24.
        dueOrder("two towers", bar + "h25,0;h26,1;h27,0;h27,1;", 2, 4, 4, 2, 0, 3, 1);
        dueOrder("a call more than ships", bar + "h9,0;", 2, 60, 1, 0);
        dueOrder("none is called", bar + "h5,0;h6,0;", 12, 9, 0, 0, 1);
        dueOrder("ships more than calls, that need no water", bar + "h0,0;h0,0;h0,0;", 2, 4, 2, 0, 1, 2);
        // By LAW 2 waves 1, 3 .. 11 have WATER 29 27 25 23 21 20.
        String six = "b20,9;p9;t0,0;";
        dueOrder("the first of all orders", six + "h29,0;h27,0;h25,0;h23,0;h21,0;h20,0;", 2, 12, 6, 0, 1, 2, 3, 4, 5);
        dueOrder("the last of all orders", six + "h20,0;h21,0;h23,0;h25,0;h27,0;h29,0;", 2, 12, 6, 5, 4, 3, 2, 1, 0);
        NinthWave x = Edges.told(bar + "h90,0;h9,0;h25,0;h23,0;");
        x.law(2);
        x.change(0, 1);
        x.waves(2);
        Edges.due("ship 1 is over", x.ship(1, 3), 1);
        Edges.due("it is counted, too", x.order(4, -1), 3);
        int[] want = {1, 2, 3, 0};
        for (int k = 0; k < 4; k++) {
            Edges.due("one that does not wait stands anywhere: place " + k, x.order(4, k), want[k]);
        }
    }

    private static void dueOrder(String what, String text, int law, int n, int many, int... who) {
        NinthWave x = sea(text, law, 0).make();
        Edges.due(what + ": how many", x.order(n, -1), many);
        for (int k = 0; k < who.length; k++) {
            Edges.due(what + ": place " + k, x.order(n, k), who[k]);
        }
        Edges.due(what + ": beyond the last", x.order(n, who.length), Edges.BAD);
    }

    private static void laws() {
        Edges.sentence("25 laws", "LAWS for n WAVES (1 to 200): which (what = 0), how many (1). BAD");
        Edges.bounds(Edges.BUSY, "laws(#, 1)", (x, n) -> x.laws(n, 1), 1, 4, 200, 4);
        Edges.bounds(Edges.BUSY, "laws(#, 0)", (x, n) -> x.laws(n, 0), 1, 2, 200, 2);
        Edges.bounds(Edges.BUSY, "laws(200, #)", (x, n) -> x.laws(200, n), 0, 2, 1, 4);
        Edges.answered(Edges.BUSY, "laws(200, 0)", x -> x.laws(200, 0), 2);
        // COUNTS are 21, 24, 20 there: no law divides both 22 and 25.
        Edges.answered(Edges.ACTED, "laws(1, 1)", x -> x.laws(1, 1), 3);
        // By LAW 2 waves 39, 79, 119, 159, 199 are called.
        Edges.Begin five = sea("b60,0;" + LULLS + "p5;t0,0;" + "h65,0;".repeat(5), 9, 0);
        Edges.due("199 waves", five.make().laws(199, 1), 4);
        Edges.due("200 waves", five.make().laws(200, 1), 5);
        Edges.due("by 2", five.make().laws(200, 0), 2);
        Edges.sentence("25 laws", "the LAW (2 to 12) by which most are OVER behind them, of several the least");
        // A sea of plain waves: COUNT 0, and water for the ship in one wave alone.
        for (int wave = 0; wave < 20; wave++) {
            StringBuilder text = new StringBuilder("b60,0;");
            for (int k = 0; k < 20; k++) {
                text.append(k == wave ? "p5;" : "p0;");
            }
            NinthWave x = Edges.told(text + "t0,0;h65,0;");
            boolean isLaw = wave >= 1 && wave <= 11;
            Edges.due("water in wave " + wave, x.laws(20, 0), isLaw ? wave + 1 : 2);
            Edges.due("water in wave " + wave, x.laws(20, 1), isLaw ? 1 : 0);
            Edges.due("in time", x.laws(wave + 1, 1), isLaw ? 1 : 0);
            Edges.due("too soon", wave == 0 ? 0 : x.laws(wave, 1), 0);
        }
        NinthWave over = Edges.told("b60,0;p0;t0,8;h0,0;h0,0;");
        over.waves(1);
        Edges.due("those that are over already, too", over.laws(1, 1), 2);
        Edges.due("COUNT 9: by 2 wave 1 is called", over.laws(1, 0), 2);
        Edges.due("no ships", Edges.told("b0,0;p0;t0,0;").laws(200, 0), 2);
        noSea("25 laws", (y, a, b) -> y.laws(a, b), new int[][] {{1, 0}, {200, 1}, {0, 0}, {201, 0}, {1, -1}, {1, 2}});
    }

    private static String waterIn(int wave) {
        StringBuilder text = new StringBuilder("b60,0;");
        for (int k = 0; k < 20; k++) {
            text.append(k == wave ? "p5;" : "p0;");
        }
        return text.toString();
    }

    private static void dueBribe(String what, NinthWave x, int ship, int slip, int wave, int struck) {
        Edges.due(what + ": SLIP", x.bribe(ship, 0), slip);
        Edges.due(what + ": WAVE", x.bribe(ship, 1), wave);
        Edges.due(what + ": STRUCK", x.bribe(ship, 2), struck);
    }

    private static void bribe() {
        Edges.sentence("26 bribe", "the SLIP (what = 0), the WAVE (1), how many have STRUCK (2). BAD");
        Edges.bounds(Edges.BUSY, "bribe(3, #)", (x, n) -> x.bribe(3, n), 0, 2, 2, 2);
        Edges.bad(Edges.BUSY, "bribe(#, 0)", (x, n) -> x.bribe(n, 0), -1, 6, Edges.MIN, Edges.MAX);
        Edges.bad(Edges.NO_SEA, "bribe(#, 0)", (x, n) -> x.bribe(n, 0), 0, 5);
        Edges.answered(Edges.BUSY, "bribe(3, 1)", x -> x.bribe(3, 1), 5);
        Edges.answered(Edges.ACTED, "bribe(5, 2)", x -> x.bribe(5, 2), Edges.NONE);
        Edges.sentence("26 bribe", "STATE: it does not wait; BAD ahead of it");
        for (int ship : new int[] {0, 1, 2}) {
            for (int what = 0; what <= 2; what++) {
                int asked = what;
                Edges.refused(Edges.BUSY, "bribe(" + ship + ", " + what + ")", x -> x.bribe(ship, asked), Edges.STATE);
            }
            Edges.bad(Edges.BUSY, "bribe(" + ship + ", #)", (x, n) -> x.bribe(ship, n), -1, 3);
        }
        Edges.sentence("26 bribe", "the SLIP (-4 to 4) of its TOWER now");
        // LAW 12: from COUNT 8 less 4 wave 7 is called first; by 5 it would be wave 8.
        dueBribe("-4", sea(waterIn(7) + "t0,8;h65,0;", 12, 0).make(), 0, -4, 7, 0);
        dueBribe("not -5", sea(waterIn(8) + "t0,8;h65,0;", 12, 0).make(), 0, Edges.NONE, Edges.NONE, Edges.NONE);
        dueBribe("4", sea(waterIn(7) + "t0,0;h65,0;", 12, 0).make(), 0, 4, 7, 0);
        dueBribe("not 5", sea(waterIn(6) + "t0,0;h65,0;", 12, 0).make(), 0, Edges.NONE, Edges.NONE, Edges.NONE);
        dueBribe("0", sea(waterIn(6) + "t0,5;h65,0;", 12, 0).make(), 0, 0, 6, 0);
        dueBribe("its own tower alone", sea(waterIn(7) + "t0,1;t0,0;h65,1;", 12, 0).make(), 0, 4, 7, 0);
        Edges.sentence("26 bribe", "in the least WAVE, of several the least SLIP");
        dueBribe("0 at least: -4 to 0 are alike", sea(waterIn(11) + "t0,0;h65,0;", 12, 0).make(), 0, -4, 11, 0);
        dueBribe("-4 to -2 are alike", sea(waterIn(11) + "t0,2;h65,0;", 12, 0).make(), 0, -4, 11, 0);
        dueBribe("the least wave", sea("b60,0;p0;t0,3;h60,0;", 12, 0).make(), 0, 4, 4, 0);
        dueBribe("the next wave, of several", sea("b60,0;p0;t0,3;h60,0;", 5, 0).make(), 0, 1, 0, 0);
        dueBribe("by LAW 2 -4 and 0, 2, 4 are alike", sea("b60,0;p0;t0,5;h60,0;", 2, 0).make(), 0, -4, 0, 0);
    }

    private static void bribeAhead() {
        Edges.sentence("26 bribe", "OVER in the least WAVE of the next 200; NONE");
        // LAW 8, COUNT 1, one ship ahead: with SLIP 4 the second call is in wave 200, with less it is later.
        String text = RARE + "t0,1;h66,0;h65,0;";
        dueBribe("wave 200 from 0", sea(text, 8, 0).make(), 1, Edges.NONE, Edges.NONE, Edges.NONE);
        dueBribe("wave 200 from 1", sea(text, 8, 1).make(), 1, 4, 200, 1);
        dueBribe("it strikes by each", sea(text, 8, 1).make(), 0, Edges.NONE, Edges.NONE, Edges.NONE);
        Edges.sentence("26 bribe", "how many have STRUCK then behind these 200");
        // LAW 7: with SLIP 4 from COUNT 0 waves 40, 180 are called, 320 is too late.
        dueBribe("wave 180 counts", sea(RARE + "t0,0;h65,0;h66,0;h66,0;", 7, 0).make(), 0, 4, 40, 1);
        // Tower 1, by which nobody is bribed, calls wave 200 first by LAW 11.
        dueBribe("wave 200 from 0", sea(RARE + "t2,0;t0,0;h60,0;h66,1;", 11, 0).make(), 0, 4, 6, 0);
        dueBribe("wave 200 from 1", sea(RARE + "t2,0;t0,0;h60,0;h66,1;", 11, 1).make(), 0, 4, 6, 1);
        NinthWave x = Edges.told("b60,0;p0;t0,8;t0,0;h61,0;h60,1;");
        x.waves(1);
        dueBribe("those that had struck, too", x, 1, 4, 4, 1);
    }

    private static void heed() {
        Edges.sentence("27 heed", "HEED of a SHIP. BAD");
        Edges.bad(Edges.BUSY, "heed(#)", (x, n) -> x.heed(n), -1, 6, Edges.MIN, Edges.MAX);
        Edges.bad(Edges.NO_SEA, "heed(#)", (x, n) -> x.heed(n), 0, 5, -1);
        Edges.bad(() -> Edges.told("b0,0;p0;t0,0;"), "heed(#)", (x, n) -> x.heed(n), 0, -1);
        Edges.answered(Edges.BUSY, "heed(3)", x -> x.heed(3), 1);
        Edges.answered(Edges.BUSY, "heed(4)", x -> x.heed(4), 1);
        Edges.answered(Edges.BUSY, "heed(5)", x -> x.heed(5), Edges.NONE);
        Edges.due("the first ship", Edges.told("b9,0;p0;t0,0;h9,0;").heed(0), 0);
        Edges.sentence("27 heed", "STATE: it does not wait");
        for (int ship : new int[] {0, 1, 2}) {
            Edges.refused(Edges.BUSY, "heed(" + ship + ")", x -> x.heed(ship), Edges.STATE);
        }
        Edges.sentence("27 heed", "OVER in the least WAVE of the next 200, of several the first; NONE");
        Edges.due("wave 200 from 0", sea(RARE + "t0,0;t0,0;h65,0;", 11, 0).make().heed(0), Edges.NONE);
        Edges.due("wave 200 from 1, the first", sea(RARE + "t0,0;t0,0;h65,1;", 11, 1).make().heed(0), 0);
        Edges.due("wave 180 of tower 1", sea(RARE + "t0,0;t0,1;t0,1;h65,0;", 11, 0).make().heed(0), 1);
        Edges.due("wave 160 of tower 2", sea(RARE + "t0,0;t0,1;t0,2;h65,0;", 11, 0).make().heed(0), 2);
        Edges.due("it strikes by all", sea(RARE + "t0,0;t0,1;t0,2;h66,0;", 11, 0).make().heed(0), Edges.NONE);
        Edges.due("by tower 0 it would strike", Edges.told("b60,0;p0;p5;t0,8;t0,7;h65,0;").heed(0), 1);
        Edges.due("another is ahead of it at tower 1", Edges.told("b60,0;p0;t0,7;t0,8;h9,1;h9,0;").heed(1), 0);
    }

    private static void agreed() {
        Edges.sentence("28 agreed", "WAVES of the next n (1 to 100): how many (what = 0), the first (1; NONE). BAD");
        // By LAW 6 wave 100 is called first.
        Edges.Begin from1 = sea(RARE + "t0,0;t0,0;", 6, 1);
        Edges.bounds(from1, "agreed(#, 0)", (x, n) -> x.agreed(n, 0), 1, 0, 100, 1);
        Edges.bounds(from1, "agreed(#, 1)", (x, n) -> x.agreed(n, 1), 1, Edges.NONE, 100, 100);
        Edges.bounds(from1, "agreed(100, #)", (x, n) -> x.agreed(100, n), 0, 1, 1, 100);
        Edges.due("99 from 1", from1.make().agreed(99, 0), 0);
        Edges.due("99 from 1", from1.make().agreed(99, 1), Edges.NONE);
        Edges.due("100 from 0", sea(RARE + "t0,0;t0,0;", 6, 0).make().agreed(100, 0), 0);
        Edges.bad(Edges.BUSY, "agreed(#, 0)", (x, n) -> x.agreed(n, 0), 0, 101);
        Edges.answered(Edges.BUSY, "agreed(1, 1)", x -> x.agreed(1, 1), Edges.NONE);
        Edges.answered(Edges.BUSY, "agreed(3, 1)", x -> x.agreed(3, 1), 7);
        Edges.sentence("28 agreed", "that two TOWERS CALL, or more");
        String plain = "b0,0;p0;";
        Edges.due("one tower", Edges.told(plain + "t0,0;").agreed(100, 0), 0);
        Edges.due("one of two", Edges.told(plain + "t0,0;t0,1;").agreed(100, 0), 0);
        Edges.due("two of two", Edges.told(plain + "t0,0;t0,0;").agreed(100, 0), 11);
        Edges.due("first and second", Edges.told(plain + "t0,0;t0,0;t0,1;").agreed(100, 0), 11);
        Edges.due("first and third", Edges.told(plain + "t0,0;t0,1;t0,0;").agreed(100, 1), 8);
        Edges.due("second and third", Edges.told(plain + "t0,1;t0,0;t0,0;").agreed(100, 1), 8);
        Edges.due("three of three, once", Edges.told(plain + "t0,8;t0,8;t0,8;").agreed(100, 0), 12);
        Edges.due("none of three", Edges.told(plain + "t0,0;t0,1;t0,2;").agreed(100, 1), Edges.NONE);
        noSea("28 agreed", (y, a, b) -> y.agreed(a, b), new int[][] {{1, 0}, {100, 1}, {0, 0}, {101, 0}, {1, -1}, {1, 2}});
    }

    private static NinthWave logging(String text, int law, int... items) {
        NinthWave x = Edges.told(text);
        x.law(law);
        Edges.fill(x, 0, 2, items);
        return x;
    }

    private static void dueLog(String what, NinthWave x, int n, int many, int first) {
        Edges.due(what + ": how many", x.log(0, 0, n, 0), many);
        Edges.due(what + ": the first", x.log(0, 0, n, 1), first);
        Edges.due(what + ": status()", x.status(), 0);
    }

    private static void logRefused() {
        Edges.sentence("29 log", "n WAVES (1 to 20) of a ROW from i on; BAD: ROW, n, what");
        Edges.Begin begin = () -> {
            NinthWave x = logging("b0,0;p0;t0,0;", 2, 1, 3, 5, 7, 9, 11, 13, 15, 17, 19, 21, 23, 25, 27, 29, 31, 33, 35, 37, 39, 41);
            Edges.fill(x, 7, 2, 3);
            x.drop(6);
            return x;
        };
        Edges.bounds(begin, "log(0, 0, #, 0)", (x, n) -> x.log(0, 0, n, 0), 1, 40, 20, 40);
        Edges.bounds(begin, "log(#, 0, 1, 0)", (x, n) -> x.log(n, 0, 1, 0), 0, 40, 7, 0);
        Edges.bounds(begin, "log(0, 0, 1, #)", (x, n) -> x.log(0, 0, 1, n), 0, 40, 1, 0);
        Edges.sentence("29 log", "BAD ahead of NULL and PLACE");
        Edges.bad(begin, "log(6, 0, #, 0), missing", (x, n) -> x.log(6, 0, n, 0), 0, 21);
        Edges.bad(begin, "log(6, 0, 1, #), missing", (x, n) -> x.log(6, 0, 1, n), -1, 2);
        Edges.bad(begin, "log(0, #, 21, 0)", (x, n) -> x.log(0, n, 21, 0), -1, 1, 22);
        Edges.bad(begin, "log(0, -1, 1, #)", (x, n) -> x.log(0, -1, 1, n), -1, 2);
        Edges.sentence("29 log", "NULL, ahead of PLACE");
        Edges.found(Edges.BUSY, "log(4, 0, 1, 0)", x -> x.log(4, 0, 1, 0), Edges.NULL);
        Edges.found(Edges.BUSY, "log(4, -1, 1, 0)", x -> x.log(4, -1, 1, 0), Edges.NULL);
        Edges.found(Edges.BUSY, "log(6, 40, 20, 1)", x -> x.log(6, 40, 20, 1), Edges.NULL);
        Edges.sentence("29 log", "PLACE");
        Edges.due("the last twenty", begin.make().log(0, 1, 20, 0), 0);
        Edges.due("the last", begin.make().log(0, 20, 1, 0), 0);
        int[][] none = {{0, -1, 1}, {0, 3, 1}, {0, 2, 2}, {0, 0, 4}, {2, 40, 1}, {2, 21, 20}, {5, 0, 1}, {0, Edges.MAX, 1},
            {0, Edges.MAX, 20}, {0, Edges.MIN, 1}, {0, Edges.MIN, 20}};
        for (int[] c : none) {
            Edges.found(Edges.CALM, "log(" + c[0] + ", " + c[1] + ", " + c[2] + ", 0)", x -> x.log(c[0], c[1], c[2], 0), Edges.PLACE);
        }
        noSea("29 log", (y, a, b) -> y.log(a, 0, b, 0), new int[][] {{0, 1}, {0, 0}, {0, 21}, {8, 1}, {4, 1}, {5, 1}, {2, 20}});
        Edges.refused(Edges.NO_SEA, "log(0, 0, 1, 2)", x -> x.log(0, 0, 1, 2), Edges.STATE);
    }

    private static void logItems() {
        Edges.sentence("29 log", "then BAD: an ITEM not 0 to 399, or not more than the one ahead");
        Edges.Begin begin = () -> {
            NinthWave x = logging("b0,0;p0;t0,0;", 9, 0, 399, 400, -1, 0, 8, 8, 7, 9, Edges.MAX, Edges.MIN);
            x.set(0, 11, 0);
            return x;
        };
        Edges.due("status() ahead", begin.make().status(), Edges.PLACE);
        Edges.due("0", begin.make().log(0, 0, 1, 0), 8);
        Edges.due("399", begin.make().log(0, 1, 1, 0), 0);
        Edges.due("0 and 399", begin.make().log(0, 0, 2, 0), 0);
        Edges.due("0 and 8", begin.make().log(0, 4, 2, 0), 0);
        Edges.due("7 and 9", begin.make().log(0, 7, 2, 0), 0);
        int[][] cases = {{2, 1}, {1, 2}, {0, 3}, {3, 1}, {3, 2}, {2, 2}, {5, 2}, {6, 2}, {4, 3}, {9, 1}, {8, 2}, {10, 1}, {9, 2}, {0, 11}};
        for (int[] c : cases) {
            for (int what = 0; what <= 1; what++) {
                int asked = what;
                Edges.refused(begin, "log(0, " + c[0] + ", " + c[1] + ", " + what + ")", x -> x.log(0, c[0], c[1], asked), Edges.BAD);
            }
        }
        Edges.sentence("29 log", "PLACE ahead of BAD: an ITEM");
        Edges.Begin calm = () -> {
            NinthWave x = begin.make();
            x.set(0, 0, 0);
            return x;
        };
        Edges.found(calm, "log(0, 9, 3, 0)", x -> x.log(0, 9, 3, 0), Edges.PLACE);
        Edges.found(calm, "log(0, 2, 20, 0)", x -> x.log(0, 2, 20, 0), Edges.PLACE);
    }

    private static void logFits() {
        Edges.sentence("29 log", "pairs of a COUNT (0 to 8) it had, and SEES (0 to 7); the first (8 times COUNT, and SEES); NONE");
        dueLog("pair 71 alone", logging("b0,0;l0;m0;s0;t0,0;", 9, 0, 7), 2, 1, 71);
        dueLog("pair 0 alone", logging("b0,0;p0;l0;m0;s0;t7,8;", 9, 16), 1, 1, 0);
        dueLog("all SEES", logging("b0,0;p0;t0,0;", 9, 4), 1, 8, 32);
        dueLog("not COUNT 9", logging("b0,0;p0;t0,0;", 12, 2), 1, 0, Edges.NONE);
        dueLog("COUNT 8", logging("b0,0;p0;t0,0;", 12, 3), 1, 8, 64);
        dueLog("COUNT 0", logging("b0,0;p0;t0,0;", 12, 11), 1, 8, 0);
        dueLog("not COUNT -1", logging("b0,0;p0;t0,0;", 12, 12), 1, 0, Edges.NONE);
        dueLog("beyond by a split one", logging("b0,0;s0;t0,0;", 9, 0), 1, 12, 57);
        Edges.sentence("29 log", "from WAVE 0 on up to the last of them, no other ones, by the LAW as it is");
        dueLog("wave 8 is told, 17 not yet", logging("b0,0;p0;t0,0;", 9, 8, 17), 1, 8, 0);
        dueLog("both", logging("b0,0;p0;t0,0;", 9, 8, 17), 2, 8, 0);
        dueLog("8 is left out", logging("b0,0;p0;t0,0;", 9, 17), 1, 0, Edges.NONE);
        dueLog("17 is left out", logging("b0,0;p0;t0,0;", 9, 8, 26), 2, 0, Edges.NONE);
        dueLog("one too late", logging("b0,0;p0;t0,0;", 9, 8, 18), 2, 0, Edges.NONE);
        dueLog("one too soon", logging("b0,0;p0;t0,0;", 9, 8, 16), 2, 0, Edges.NONE);
        dueLog("LAW 2", logging("b0,0;p0;t0,0;", 2, 0, 2, 4), 3, 32, 8);
        dueLog("up to 399", logging("b0,0;" + LULLS + "p0;t0,0;", 12, 159, 399), 2, 4, 32);
        NinthWave x = logging("b0,0;p0;t0,0;h0,0;", 9, 8, 17);
        x.waves(20);
        x.slip(0, 9);
        dueLog("whatever came in since", x, 2, 8, 0);
        x.law(3);
        dueLog("by LAW 3 there are others between", x, 2, 0, Edges.NONE);
        Edges.sentence("29 log", "a ROW from i on");
        NinthWave from = logging("b0,0;p0;t0,0;", 9, 5, 1, 8, 17, 3);
        Edges.due("8 and 17", from.log(0, 2, 2, 1), 0);
        Edges.due("1", from.log(0, 1, 1, 1), 56);
        Edges.due("3, the last", from.log(0, 4, 1, 1), 40);
        Edges.Begin found = () -> {
            NinthWave y = logging("b0,0;p0;t0,0;h0,0;", 9, 8, 17);
            y.waves(3);
            y.drop(7);
            return y;
        };
        Edges.dueAndNothingElse(found, "log(0, 0, 2, 0)", y -> y.log(0, 0, 2, 0), 8, 0);
        Edges.dueAndNothingElse(found, "log(0, 1, 1, 1)", y -> y.log(0, 1, 1, 1), Edges.NONE, 0);
        for (int lane = 0; lane <= 2; lane++) {
            NinthWave y = Edges.told("b0,0;p0;t0,0;");
            Edges.fill(y, 3, lane, 8, 17);
            Edges.due("lane " + lane, y.log(3, 0, 2, 0), 8);
        }
    }

    private static void wreck() {
        Edges.sentence("30 wreck", "in one of the next n WAVES (1 to 100): how many, the first (NONE). BAD");
        // By LAW 6 wave 100 is called first; its WATER is 65.
        Edges.Begin from1 = sea(RARE + "t0,0;", 6, 1);
        Edges.bounds(from1, "wreck(70, 5, #, 0)", (x, n) -> x.wreck(70, 5, n, 0), 1, 0, 100, 1);
        Edges.bounds(from1, "wreck(70, 5, #, 1)", (x, n) -> x.wreck(70, 5, n, 1), 1, Edges.NONE, 100, 100);
        Edges.bounds(from1, "wreck(70, 5, 100, #)", (x, n) -> x.wreck(70, 5, 100, n), 0, 1, 1, 100);
        Edges.due("99 from 1", from1.make().wreck(70, 5, 99, 0), 0);
        Edges.due("100 from 0", sea(RARE + "t0,0;", 6, 0).make().wreck(70, 5, 100, 0), 0);
        Edges.answered(Edges.BUSY, "wreck(33, 2, 1, 1)", x -> x.wreck(33, 2, 1, 1), 5);
        Edges.sentence("30 wreck", "DRAUGHT 0 to 99, inches 1 to 99");
        Edges.Begin deep = () -> Edges.told("b60,0;d19;t0,8;");
        Edges.bounds(deep, "wreck(#, 1, 1, 0)", (x, n) -> x.wreck(n, 1, 1, 0), 0, 0, 99, 1);
        Edges.Begin dry = () -> Edges.told("b0,0;l30;t2,8;");
        Edges.bounds(dry, "wreck(99, #, 1, 0)", (x, n) -> x.wreck(99, n, 1, 0), 1, 0, 99, 1);
        Edges.due("1 by 1", dry.make().wreck(1, 1, 1, 0), 1);
        Edges.due("0 by 1: less than no water", dry.make().wreck(0, 1, 100, 0), 0);
        Edges.due("98 by 99", dry.make().wreck(98, 99, 100, 0), 0);
        Edges.sentence("30 wreck", "STRUCK by just so many inches of WATER too few");
        for (int inches = 1; inches <= 99; inches++) {
            Edges.due("inches " + inches, deep.make().wreck(99, inches, 1, 0), inches == 1 ? 1 : 0);
        }
        Edges.sentence("30 wreck", "WAVES that some TOWER CALLS: how many such WAVES there are; the first");
        Edges.due("no call", Edges.told("b60,0;p0;t0,7;").wreck(61, 1, 1, 0), 0);
        Edges.due("no call", Edges.told("b60,0;p0;t0,7;").wreck(61, 1, 1, 1), Edges.NONE);
        Edges.due("the last tower alone", Edges.told("b60,0;p0;t0,0;t0,1;t0,8;").wreck(61, 1, 1, 1), 0);
        Edges.due("three towers, one wave", Edges.told("b60,0;p0;t0,8;t0,8;t0,8;").wreck(61, 1, 9, 0), 1);
        Edges.due("two waves", Edges.told("b60,0;p0;t0,8;t0,8;t0,8;").wreck(61, 1, 10, 0), 2);
        Edges.due("no ship heeds it, but it calls", Edges.told("b60,0;p0;t0,8;t0,0;h9,1;").wreck(61, 1, 1, 0), 1);
        noSea("30 wreck", (y, a, b) -> y.wreck(a, b, 1, 0), new int[][] {{0, 1}, {99, 99}, {-1, 1}, {100, 1}, {0, 0}, {0, 100}});
        noSea("30 wreck", (y, a, b) -> y.wreck(0, 1, a, b), new int[][] {{1, 0}, {100, 1}, {0, 0}, {101, 0}, {1, -1}, {1, 2}});
    }

    /** SEASON as the document tells it, for one tower and ships that heed it: behind n waves {.., OVER, STRUCK}. */
    private static final class Season {
        final int depth, ebb, wave, sees, count, law;

        Season(int depth, int ebb, int wave, int sees, int count, int law) {
            this.depth = depth;
            this.ebb = ebb;
            this.wave = wave;
            this.sees = sees;
            this.count = count;
            this.law = law;
        }

        int[] behind(int n, int seed, int... draughts) {
            BigInteger x = BigInteger.valueOf(seed);
            int[] fates = new int[3];
            int next = 0;
            int c = count;
            for (int w = wave; w < wave + n; w++) {
                x = x.multiply(BigInteger.valueOf(16807)).mod(BigInteger.valueOf(2147483647));
                int sort = x.mod(BigInteger.valueOf(5)).intValue();
                int height = x.divide(BigInteger.valueOf(5)).mod(BigInteger.valueOf(31)).intValue();
                int[] lifts = {height, height / 2, height * 2, 0, height < 5 ? 0 : height - 5};
                int[] steps = {1, 1 + sees % 2, 1, sees / 2 % 2, sees / 4};
                int water = Math.max(0, depth - ebb * w / 10) + lifts[sort];
                boolean calls = false;
                for (int k = 0; k < steps[sort]; k++) {
                    c++;
                    calls |= c % law == 0;
                }
                if (calls && next < draughts.length) {
                    fates[water >= draughts[next] ? 1 : 2]++;
                    next++;
                }
            }
            return fates;
        }
    }

    private static void seasons() {
        Edges.sentence("31 season", "SEASON of n WAVES (0 to 100) by a SEED (1 to 999999). BAD");
        Edges.Begin begin = () -> Edges.told("b40,2;p0;t7,0;h45,0;h44,0;h43,0;h42,0;h41,0;h40,0;");
        Season all = new Season(40, 2, 0, 7, 0, 9);
        int[] draughts = {45, 44, 43, 42, 41, 40};
        for (int seed : new int[] {1, 2, 5, 31, 127773, 127774, 500000, 999998, 999999}) {
            NinthWave x = begin.make();
            for (int n = 0; n <= 100; n++) {
                int[] fates = all.behind(n, seed, draughts);
                Edges.due("season(" + n + ", " + seed + ", 0)", x.season(n, seed, 0), fates[1]);
                Edges.due("season(" + n + ", " + seed + ", 1)", x.season(n, seed, 1), fates[2]);
            }
        }
        int[] most = all.behind(100, 7, draughts);
        Edges.bounds(begin, "season(#, 7, 0)", (x, n) -> x.season(n, 7, 0), 0, 0, 100, most[1]);
        Edges.bounds(begin, "season(#, 7, 1)", (x, n) -> x.season(n, 7, 1), 0, 0, 100, most[2]);
        int[] first = all.behind(50, 1, draughts);
        int[] last = all.behind(50, 999999, draughts);
        Edges.bounds(begin, "season(50, #, 0)", (x, n) -> x.season(50, n, 0), 1, first[1], 999999, last[1]);
        Edges.bounds(begin, "season(50, 1, #)", (x, n) -> x.season(50, 1, n), 0, first[1], 1, first[2]);
        noSea("31 season", (y, a, b) -> y.season(a, b, 0), new int[][] {{0, 1}, {100, 999999}, {-1, 1}, {101, 1}, {0, 0}, {0, 1000000}});
        Edges.refused(Edges.NO_SEA, "season(0, 1, 2)", y -> y.season(0, 1, 2), Edges.STATE);
        Edges.sentence("31 season", "such WAVES come in place of SWELLS, from now on; nothing changes");
        NinthWave x = begin.make();
        x.waves(20);
        // Of the plain waves ahead 8, 17 are called: 45 and 44 strike by WATER 39, 37.
        Season from20 = new Season(40, 2, 20, 7, 20, 9);
        for (int n = 0; n <= 100; n++) {
            int[] fates = from20.behind(n, 77, 43, 42, 41, 40);
            Edges.due("from wave 20, season(" + n + ", 77, 0)", x.season(n, 77, 0), fates[1]);
            Edges.due("from wave 20, season(" + n + ", 77, 1)", x.season(n, 77, 1), fates[2] + 2);
        }
        Edges.answered(Edges.BUSY, "season(0, 1, 0)", y -> y.season(0, 1, 0), 2);
        Edges.answered(Edges.BUSY, "season(0, 1, 1)", y -> y.season(0, 1, 1), 1);
        Edges.answered(begin, "season(100, 7, 0)", y -> y.season(100, 7, 0), most[1]);
    }

    /** By some seeds the tower calls the hundredth wave: behind 99 a ship waits that is over, or has struck, behind 100. */
    private static void hundredth() {
        Edges.sentence("31 season", "SEASON of n WAVES (.. 100), the last of them, too; by SEES, by the LAW");
        // By LAW 12 a tower that sees more has called six times long before.
        for (int sees : new int[] {0, 1, 4}) {
            int seen = 0;
            for (int seed = 1; seed <= 400 && seen < 3; seed++) {
                Season s = new Season(30, 1, 0, sees, seed % 9, 12);
                int[] draughts = {30, 30, 30, 30, 30, 30};
                int[] less = s.behind(99, seed, draughts);
                int[] all = s.behind(100, seed, draughts);
                if (all[1] + all[2] == less[1] + less[2]) {
                    continue;
                }
                seen++;
                NinthWave x = Edges.told("b30,1;l0;t" + sees + "," + seed % 9 + ";" + "h30,0;".repeat(6));
                x.law(12);
                for (int what = 0; what <= 1; what++) {
                    Edges.due("season(99, " + seed + ", " + what + ")", x.season(99, seed, what), less[what + 1]);
                    Edges.due("season(100, " + seed + ", " + what + ")", x.season(100, seed, what), all[what + 1]);
                }
            }
            Edges.due("there are such seeds, SEES " + sees, seen > 0 ? 1 : 0, 1);
        }
    }

    public static void main(String[] args) {
        ahead();
        shipAhead();
        towerAhead();
        called();
        fit();
        highest();
        order();
        orderOfSeveral();
        laws();
        bribe();
        bribeAhead();
        heed();
        agreed();
        logRefused();
        logItems();
        logFits();
        wreck();
        seasons();
        hundredth();
        Edges.end();
    }
}
