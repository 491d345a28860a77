/** The edges of part 2 and of promises 9 to 17, a test for each sentence that names one. */
public final class WavesEdgeTest {
    /** The sea of Edges.BUSY behind so many waves. */
    private static Edges.Begin behind(int waves) {
        return () -> {
            NinthWave x = Edges.BUSY.make();
            int left = waves - x.count(4);
            while (left > 0) {
                int n = Math.min(left, 24);
                x.waves(n);
                left -= n;
            }
            return x;
        };
    }

    private static void wrap() {
        Edges.sentence("2 WAVES", "WAVE w is SWELL w left over by how many there are");
        for (int swells : new int[] {1, 2, 7, 19, 20}) {
            StringBuilder text = new StringBuilder("b0,0;");
            for (int k = 0; k < swells; k++) {
                text.append("psdlm".charAt(k % 5)).append(k).append(';');
            }
            NinthWave x = Edges.told(text + "t0,0;");
            int[] waves = {0, 1, swells - 1, swells, swells + 1, 2 * swells - 1, 2 * swells, 1000, 1199};
            for (int w : waves) {
                Edges.due("HEIGHT " + w + " of " + swells, x.wave(w, 0), w % swells);
                Edges.due("KIND " + w + " of " + swells, x.wave(w, 3), w % swells % 5 + 1);
            }
        }
        NinthWave x = Edges.told("b0,0;s0;p0;l0;t1,0;");
        int[] counts = {2, 3, 3, 5, 6, 6, 8};
        for (int w = 0; w < counts.length; w++) {
            x.waves(1);
            Edges.due("COUNT behind wave " + w, x.tower(0, 1), counts[w]);
        }
    }

    private static void lift() {
        Edges.sentence("2 LIFT", "plain HEIGHT; split half (cut); double twice; lull 0; steamer's less 5, 0 at least");
        int[][] lifts = {{0, 0, 0, 0, 0, 0}, {1, 1, 0, 2, 0, 0}, {2, 2, 1, 4, 0, 0}, {3, 3, 1, 6, 0, 0}, {4, 4, 2, 8, 0, 0},
            {5, 5, 2, 10, 0, 0}, {6, 6, 3, 12, 0, 1}, {29, 29, 14, 58, 0, 24}, {30, 30, 15, 60, 0, 25}};
        for (int[] row : lifts) {
            int h = row[0];
            NinthWave x = Edges.told("b7,0;p" + h + ";s" + h + ";d" + h + ";l" + h + ";m" + h + ";t0,0;");
            for (int k = 0; k < 5; k++) {
                Edges.due("LIFT of kind " + (k + 1) + ", HEIGHT " + h, x.wave(k, 1), row[k + 1]);
                Edges.due("WATER of kind " + (k + 1) + ", HEIGHT " + h, x.wave(k, 2), 7 + row[k + 1]);
            }
        }
    }

    private static void water() {
        Edges.sentence("2 WATER", "DEPTH less EBB times w by 10 (cut), 0 at least, and LIFT");
        NinthWave one = Edges.told("b9,1;p5;t0,0;");
        int[][] ones = {{0, 14}, {1, 14}, {9, 14}, {10, 13}, {19, 13}, {20, 12}, {79, 7}, {80, 6}, {89, 6}, {90, 5}, {91, 5},
            {99, 5}, {100, 5}, {110, 5}, {1199, 5}};
        for (int[] w : ones) {
            Edges.due("EBB 1, WATER " + w[0], one.wave(w[0], 2), w[1]);
        }
        NinthWave nine = Edges.told("b60,9;l0;t0,0;");
        int[][] nines = {{0, 60}, {1, 60}, {2, 59}, {10, 51}, {11, 51}, {12, 50}, {65, 2}, {66, 1}, {67, 0}, {68, 0}, {1199, 0}};
        for (int[] w : nines) {
            Edges.due("EBB 9, WATER " + w[0], nine.wave(w[0], 2), w[1]);
        }
        NinthWave none = Edges.told("b60,0;p0;t0,0;");
        Edges.due("EBB 0", none.wave(1199, 2), 60);
        Edges.due("DEPTH 0, LIFT 60", Edges.told("b0,9;d30;t0,0;").wave(1199, 2), 60);
        Edges.due("nothing", Edges.told("b0,0;l30;t0,0;").wave(0, 2), 0);
    }

    private static void counting() {
        Edges.sentence("2 TOWERS", "1 by a plain one, a double one; 2 by a split one, if SEES has bit 0; bits 1, 2");
        String sorts = "psdlm";
        for (int sees = 0; sees < 8; sees++) {
            int[] steps = {1, (sees & 1) != 0 ? 2 : 1, 1, (sees & 2) != 0 ? 1 : 0, (sees & 4) != 0 ? 1 : 0};
            for (int k = 0; k < 5; k++) {
                for (int height : new int[] {0, 30}) {
                    NinthWave x = Edges.told("b0,0;" + sorts.charAt(k) + height + ";t" + sees + ",4;");
                    Edges.due("AHEAD, SEES " + sees + " by " + sorts.charAt(k), x.towerAhead(0, 1), 4 + steps[k]);
                    x.waves(1);
                    Edges.due("COUNT, SEES " + sees + " by " + sorts.charAt(k), x.tower(0, 1), 4 + steps[k]);
                }
            }
        }
    }

    /** Each law, each count up to two laws and more, each step: a ship that waits crosses, or not. */
    private static void calling() {
        Edges.sentence("2 TOWERS", "CALLS, if its COUNT by that comes to a number that LAW divides, or beyond one");
        String[] steps = {"l0;t0,0;", "p0;t0,0;", "s0;t1,0;"};
        for (int law = 2; law <= 12; law++) {
            for (int step = 0; step <= 2; step++) {
                for (int count = 0; count <= 26; count++) {
                    NinthWave x = Edges.told("b0,0;" + steps[step] + "h0,0;h0,0;");
                    x.law(law);
                    for (int left = count; left > 0; left -= 9) {
                        x.slip(0, Math.min(left, 9));
                    }
                    boolean calls = step >= 1 && (count + 1) % law == 0 || step == 2 && (count + 2) % law == 0;
                    String name = "LAW " + law + ", COUNT " + count + ", step " + step;
                    Edges.due("called, " + name, x.called(0, 0) == 0 ? 1 : 0, calls ? 1 : 0);
                    x.waves(1);
                    Edges.due("COUNT, " + name, x.tower(0, 1), count + step);
                    Edges.due("the first crosses, " + name, x.ship(0, 3), calls ? 1 : 0);
                    Edges.due("the second waits, " + name, x.ship(1, 3), 0);
                }
            }
        }
    }

    private static void crossing() {
        Edges.sentence("2 WAVES", "the first SHIP that waits and heeds it (in the order as it is) CROSSES");
        NinthWave x = Edges.told("b9,0;p0;t0,8;t0,8;t0,8;h9,2;h9,1;h10,0;h9,0;h10,1;h0,0;");
        x.law(2);
        x.slip(2, -1);
        x.change(2, 5);
        // COUNTS 8, 8, 7 by LAW 2: tower 2 calls waves 0, 2 ..; towers 0, 1 call waves 1, 3, 5.
        int[][] fates = {{1, 0, 0, 0, 0, 0}, {1, 1, 0, 0, 0, 1}, {1, 1, 0, 0, 0, 1}, {1, 1, 0, 1, 2, 1}, {1, 1, 0, 1, 2, 1},
            {1, 1, 2, 1, 2, 1}, {1, 1, 2, 1, 2, 1}};
        int[] crossed = {0, 1, 5, 3, 3, 1};
        for (int w = 0; w < fates.length; w++) {
            Edges.due("waves", x.waves(1), w + 1);
            for (int s = 0; s < 6; s++) {
                Edges.due("ship " + s + " behind wave " + w, x.ship(s, 3), fates[w][s]);
                Edges.due("ship " + s + " crossed, behind wave " + w, x.ship(s, 4), fates[w][s] == 0 ? Edges.NONE : crossed[s]);
            }
        }
        Edges.due("none waits", x.count(6), 0);
        Edges.sentence("2 WAVES", "OVER, if WATER is its DRAUGHT or more, else it has STRUCK");
        for (int draught = 0; draught <= 99; draught++) {
            NinthWave y = Edges.told("b20,0;d7;t0,8;h" + draught + ",0;");
            y.waves(1);
            Edges.due("DRAUGHT " + draught + " by WATER 34", y.ship(0, 3), draught <= 34 ? 1 : 2);
        }
        NinthWave dry = Edges.told("b0,0;l0;t2,8;h0,0;");
        dry.waves(1);
        Edges.due("DRAUGHT 0 by WATER 0", dry.ship(0, 3), 1);
        NinthWave ebb = Edges.told("b20,9;p0;t0,6;h19,0;");
        ebb.waves(3);
        Edges.due("in wave 2 there are 19", ebb.ship(0, 3), 1);
        NinthWave late = Edges.told("b20,9;p0;t0,5;h19,0;");
        late.waves(4);
        Edges.due("in wave 3 there are 18", late.ship(0, 3), 2);
    }

    private static void waves() {
        Edges.sentence("9 waves", "n WAVES (1 to 24) come in: the WAVE that is to come. BAD");
        Edges.bounds(Edges.BUSY, "waves(#)", (x, n) -> x.waves(n), 1, 6, 24, 29);
        Edges.bounds(Edges.ACTED, "waves(#)", (x, n) -> x.waves(n), 1, 6, 24, 29);
        Edges.sentence("9 waves", "STATE: no SEA (ahead of BAD)");
        for (int n : new int[] {1, 24, 0, 25, -1, Edges.MIN, Edges.MAX}) {
            Edges.refused(Edges.NO_SEA, "waves(" + n + ")", x -> x.waves(n), Edges.STATE);
        }
        Edges.sentence("9 waves", "FULL: more than 999 would have");
        Edges.due("24 from 975", behind(975).make().waves(24), 999);
        Edges.refused(behind(976), "waves(24) from 976", x -> x.waves(24), Edges.FULL);
        Edges.due("23 from 976", behind(976).make().waves(23), 999);
        Edges.due("1 from 998", behind(998).make().waves(1), 999);
        Edges.refused(behind(998), "waves(2) from 998", x -> x.waves(2), Edges.FULL);
        Edges.refused(behind(999), "waves(1) from 999", x -> x.waves(1), Edges.FULL);
        Edges.sentence("9 waves", "BAD ahead of FULL");
        Edges.bad(behind(999), "waves(#) from 999", (x, n) -> x.waves(n), 0, 25, -1, Edges.MAX);
        Edges.sentence("9 waves", "an ACT each");
        NinthWave x = Edges.told("b0,0;p0;t0,0;");
        x.waves(1);
        Edges.due("one", x.count(7), 1);
        x.waves(3);
        Edges.due("four", x.count(7), 4);
        Edges.due("undone one by one", x.undo(), 3);
        Edges.due("wave 3 is to come", x.count(4), 3);
        Edges.due("COUNT 3", x.tower(0, 1), 3);
        Edges.dueSame("one by one, or all at once", () -> {
            NinthWave y = Edges.BUSY.make();
            y.waves(9);
            return y;
        }, () -> {
            NinthWave y = Edges.BUSY.make();
            for (int k = 0; k < 9; k++) {
                y.waves(1);
            }
            return y;
        });
    }

    private static void slip() {
        Edges.sentence("10 slip", "A COUNT SLIPS by some (-9 to 9): the COUNT. BAD");
        Edges.bounds(Edges.BUSY, "slip(0, #)", (x, n) -> x.slip(0, n), -9, 2, 9, 20);
        Edges.bounds(Edges.BUSY, "slip(#, 1)", (x, n) -> x.slip(n, 1), 0, 12, 2, 12);
        Edges.bounds(() -> Edges.told("b0,0;p0;t0,3;"), "slip(#, 1)", (x, n) -> x.slip(n, 1), 0, 4, 0, 4);
        Edges.bad(Edges.NO_SEA, "slip(#, 1)", (x, n) -> x.slip(n, 1), 0, -1, 2);
        Edges.sentence("10 slip", "a COUNT SLIPS (0 at least)");
        int[][] cases = {{8, -7, 1}, {8, -8, 0}, {8, -9, 0}, {0, -1, 0}, {0, -9, 0}, {0, 0, 0}, {0, 9, 9}, {8, 9, 17}, {1, -1, 0}};
        for (int[] c : cases) {
            NinthWave x = Edges.told("b0,0;p0;t0," + c[0] + ";t0,5;");
            Edges.due("slip(0, " + c[1] + ") of " + c[0], x.slip(0, c[1]), c[2]);
            Edges.due("COUNT", x.tower(0, 1), c[2]);
            Edges.due("the other", x.tower(1, 1), 5);
            Edges.due("an ACT", x.undo(), 0);
            Edges.due("COUNT as it was", x.tower(0, 1), c[0]);
        }
        NinthWave x = Edges.told("b9,0;p0;t0,8;h0,0;");
        Edges.due("to 9", x.slip(0, 1), 9);
        Edges.due("a slip is no wave: nobody crosses", x.ship(0, 3), 0);
        for (int k = 2; k <= 12; k++) {
            Edges.due("on and on", x.slip(0, 9), 9 * k);
        }
    }

    private static void law() {
        Edges.sentence("11 law", "The LAW is k (2 to 12): what it was. BAD");
        Edges.bounds(Edges.BUSY, "law(#)", (x, n) -> x.law(n), 2, 7, 12, 7);
        NinthWave x = Edges.told("b0,0;p0;t0,0;");
        int was = 9;
        for (int k = 2; k <= 12; k++) {
            Edges.due("law(" + k + ")", x.law(k), was);
            Edges.due("LAW", x.count(5), k);
            Edges.due("called by it", x.called(0, 0), k - 1);
            was = k;
        }
        Edges.due("undone", x.undo(), 10);
        Edges.due("LAW 11", x.count(5), 11);
        Edges.sentence("11 law", "STATE: no SEA (ahead of BAD)");
        for (int k : new int[] {2, 9, 12, 1, 13, 0, Edges.MIN, Edges.MAX}) {
            Edges.refused(Edges.NO_SEA, "law(" + k + ")", y -> y.law(k), Edges.STATE);
        }
    }

    private static void change() {
        Edges.sentence("12 change", "the place of a then. BAD: alike, too");
        Edges.bounds(Edges.BUSY, "change(#, 1)", (x, n) -> x.change(n, 1), 0, 1, 5, 1);
        Edges.bounds(Edges.BUSY, "change(1, #)", (x, n) -> x.change(1, n), 0, 3, 5, 5);
        Edges.bad(Edges.BUSY, "change(#, #)", (x, n) -> x.change(n, n), 0, 1, 5, 6, -1);
        Edges.Begin one = () -> Edges.told("b0,0;p0;t0,0;h1,0;");
        Edges.bad(one, "change(0, #) of one ship", (x, n) -> x.change(0, n), 0, 1, -1);
        Edges.bad(() -> Edges.told("b0,0;p0;t0,0;"), "change(#, 1) of none", (x, n) -> x.change(n, 1), 0, 1, -1);
        Edges.bad(Edges.NO_SEA, "change(#, 1)", (x, n) -> x.change(n, 1), 0, 2);
        int[] order = {3, 1, 2, 0, 4, 5};
        for (int a = 0; a < 6; a++) {
            for (int b = 0; b < 6; b++) {
                if (a != b) {
                    dueChanged(a, b, order);
                }
            }
        }
        NinthWave x = Edges.told("b0,0;p0;t0,0;h1,0;h2,0;h3,0;h4,0;h5,0;h6,0;");
        Edges.due("the first to the last place", x.change(0, 5), 5);
        Edges.due("the last to the first place", x.ship(5, 2), 0);
        Edges.due("back from there", x.change(5, 0), 5);
        Edges.due("as told", x.ship(0, 2), 0);
        Edges.due("two acts", x.undo(), 1);
        Edges.due("changed", x.ship(0, 2), 5);
        for (int s = 1; s < 5; s++) {
            Edges.due("the others", x.ship(s, 2), s);
        }
    }

    /** In BUSY ship 0 is in place 3, ship 3 in place 0; behind a change two have changed places, no other. */
    private static void dueChanged(int a, int b, int[] places) {
        NinthWave x = Edges.BUSY.make();
        Edges.due("change(" + a + ", " + b + ")", x.change(a, b), places[b]);
        for (int s = 0; s < 6; s++) {
            int place = s == a ? places[b] : s == b ? places[a] : places[s];
            Edges.due("the place of " + s + " behind change(" + a + ", " + b + ")", x.ship(s, 2), place);
        }
    }

    private static void heeds() {
        Edges.sentence("13 heeds", "which it heeded. BAD");
        Edges.bounds(() -> Edges.told("b0,0;p0;t0,0;t0,0;t0,0;h1,2;h1,1;"), "heeds(#, 0)", (x, n) -> x.heeds(n, 0), 0, 2, 1, 1);
        Edges.bounds(Edges.BUSY, "heeds(3, #)", (x, n) -> x.heeds(3, n), 0, 0, 2, 0);
        Edges.bad(Edges.BUSY, "heeds(#, 0)", (x, n) -> x.heeds(n, 0), -1, 6);
        Edges.bad(Edges.NO_SEA, "heeds(#, 0)", (x, n) -> x.heeds(n, 0), 0, -1);
        Edges.sentence("13 heeds", "STATE: it does not wait");
        for (int ship : new int[] {0, 1, 2}) {
            Edges.refused(Edges.BUSY, "heeds(" + ship + ", 0)", x -> x.heeds(ship, 0), Edges.STATE);
            Edges.refused(Edges.ACTED, "heeds(" + ship + ", 2)", x -> x.heeds(ship, 2), Edges.STATE);
        }
        Edges.sentence("13 heeds", "BAD ahead of STATE");
        Edges.bad(Edges.BUSY, "heeds(0, #), which is over", (x, n) -> x.heeds(0, n), -1, 3);
        Edges.bad(Edges.BUSY, "heeds(1, #), which has struck", (x, n) -> x.heeds(1, n), -1, 3);
        NinthWave x = Edges.told("b9,0;p0;t0,8;t0,0;h9,0;");
        x.waves(1);
        Edges.due("over", x.heeds(0, 1), Edges.STATE);
        x.undo();
        Edges.due("waits again", x.heeds(0, 1), 0);
        Edges.due("heeds 1", x.ship(0, 1), 1);
        Edges.due("which it heeded since", x.heeds(0, 0), 1);
        Edges.due("undone", x.undo(), 1);
        Edges.due("undone", x.undo(), 0);
        Edges.due("heeds 0", x.ship(0, 1), 0);
    }

    /** Act k: the five kinds in turn; a law, a tower that is heeded are always others than those ahead. */
    private static void oneOfEach(NinthWave x, int k) {
        switch (k % 5) {
            case 0: x.waves(1); break;
            case 1: x.slip(k % 3, k % 2 == 0 ? -9 : 9); break;
            case 2: x.law(x.count(5) == 12 ? 2 : x.count(5) + 1); break;
            case 3: x.change(k % 6, (k + 1) % 6); break;
            default: heedAnother(x); break;
        }
    }

    private static void heedAnother(NinthWave x) {
        for (int s = 0; s < 6; s++) {
            if (x.ship(s, 3) == 0) {
                x.heeds(s, (x.ship(s, 1) + 1) % 3);
                return;
            }
        }
        x.slip(0, 1);
    }

    private static Edges.Begin acted(int first, int behindLast) {
        return () -> {
            NinthWave x = Edges.told("b30,4;p12;s9;d7;l8;m11;p3;t5,6;t2,7;t0,8;h33,0;h40,1;h39,2;h28,0;h24,1;h44,2;");
            for (int k = first; k < behindLast; k++) {
                oneOfEach(x, k);
            }
            return x;
        };
    }

    private static void acts() {
        Edges.sentence("2 ACTS", "24 at most are kept, of more the oldest is forgotten");
        for (int first = 0; first < 5; first++) {
            for (int many : new int[] {0, 1, 23, 24, 25, 26, 48, 49, 50}) {
                int kept = Math.min(many, 24);
                int from = first;
                NinthWave x = acted(first, first + many).make();
                Edges.due("count(7) behind " + many, x.count(7), kept);
                for (int k = kept - 1; k >= 0; k--) {
                    Edges.due("undo() behind " + many, x.undo(), k);
                }
                Edges.due("undo() of none behind " + many, x.undo(), Edges.STATE);
                Edges.dueSame("all undone behind " + many, undone(from, from + many, kept), forgetful(from, from + many - kept));
            }
        }
        Edges.sentence("2 ACTS", "each can be undone, the latest first");
        for (int many = 1; many <= 24; many++) {
            int n = many;
            Edges.dueSame("the latest of " + many + " undone", undone(0, n, 1), acted(0, n - 1));
        }
        // The ring of acts goes round with undone ones between.
        Edges.dueSame("acts, half of them undone, others", () -> {
            NinthWave x = acted(0, 30).make();
            for (int k = 0; k < 10; k++) {
                x.undo();
            }
            for (int k = 3; k < 8; k++) {
                oneOfEach(x, k);
            }
            for (int k = 0; k < 5; k++) {
                x.undo();
            }
            return x;
        }, () -> {
            NinthWave x = acted(0, 30).make();
            for (int k = 0; k < 10; k++) {
                x.undo();
            }
            return x;
        });
    }

    private static Edges.Begin undone(int first, int behindLast, int many) {
        return () -> {
            NinthWave x = acted(first, behindLast).make();
            for (int k = 0; k < many; k++) {
                x.undo();
            }
            return x;
        };
    }

    /** The acts stand, but none can be undone: 24 others come, by which they are forgotten, and are undone. */
    private static Edges.Begin forgetful(int first, int behindLast) {
        return () -> {
            NinthWave x = acted(first, behindLast).make();
            for (int k = 0; k < 24; k++) {
                x.slip(0, 1);
            }
            for (int k = 0; k < 24; k++) {
                x.undo();
            }
            return x;
        };
    }

    private static void undo() {
        Edges.sentence("14 undo", "STATE: none");
        Edges.refused(Edges.BLANK, "undo() of a new object", x -> x.undo(), Edges.STATE);
        Edges.refused(Edges.NO_SEA, "undo() without a sea", x -> x.undo(), Edges.STATE);
        Edges.refused(() -> Edges.told("b0,0;p0;t0,0;"), "undo() behind sea()", x -> x.undo(), Edges.STATE);
        Edges.Begin restored = () -> {
            NinthWave x = Edges.BUSY.make();
            x.restore(0);
            return x;
        };
        Edges.refused(restored, "undo() behind restore(0)", x -> x.undo(), Edges.STATE);
        Edges.Begin allUndone = () -> {
            NinthWave x = Edges.ACTED.make();
            for (int k = 0; k < 24; k++) {
                x.undo();
            }
            return x;
        };
        Edges.refused(allUndone, "undo() behind 24", x -> x.undo(), Edges.STATE);
        Edges.sentence("14 undo", "how many can be undone yet");
        Edges.due("the last", undoneButOne().undo(), 0);
    }

    private static NinthWave undoneButOne() {
        NinthWave x = Edges.told("b0,0;p0;t0,0;");
        x.law(2);
        Edges.due("one can be", x.count(7), 1);
        return x;
    }

    private static void ship() {
        Edges.sentence("15 ship", "Of a SHIP; BAD");
        Edges.bounds(Edges.BUSY, "ship(#, 0)", (x, n) -> x.ship(n, 0), 0, 33, 5, 44);
        Edges.bounds(Edges.BUSY, "ship(1, #)", (x, n) -> x.ship(1, n), 0, 40, 4, 1);
        Edges.bounds(() -> Edges.told("b0,0;p0;t0,0;h7,0;"), "ship(#, 0)", (x, n) -> x.ship(n, 0), 0, 7, 0, 7);
        Edges.bad(() -> Edges.told("b0,0;p0;t0,0;"), "ship(#, 0)", (x, n) -> x.ship(n, 0), 0, -1);
        Edges.bad(Edges.NO_SEA, "ship(#, 0)", (x, n) -> x.ship(n, 0), 0, 5);
        int[][] all = {{33, 0, 3, 1, 1}, {40, 1, 1, 2, 1}, {39, 2, 2, 1, 0}, {28, 0, 0, 0, Edges.NONE}, {24, 1, 4, 0, Edges.NONE},
            {44, 1, 5, 0, Edges.NONE}};
        for (int s = 0; s < 6; s++) {
            for (int what = 0; what <= 4; what++) {
                int ship = s;
                int asked = what;
                Edges.answered(Edges.BUSY, "ship(" + s + ", " + what + ")", x -> x.ship(ship, asked), all[s][what]);
            }
        }
    }

    private static void tower() {
        Edges.sentence("16 tower", "Of a TOWER; BAD");
        Edges.bounds(Edges.BUSY, "tower(#, 0)", (x, n) -> x.tower(n, 0), 0, 5, 2, 0);
        Edges.bounds(Edges.BUSY, "tower(1, #)", (x, n) -> x.tower(1, n), 0, 2, 2, 2);
        Edges.bounds(() -> Edges.told("b0,0;p0;t3,0;"), "tower(#, 0)", (x, n) -> x.tower(n, 0), 0, 3, 0, 3);
        Edges.bad(Edges.NO_SEA, "tower(#, 0)", (x, n) -> x.tower(n, 0), 0, 2);
        Edges.sentence("16 tower", "2 how many SHIPS that wait heed it");
        NinthWave y = Edges.told("b9,0;p0;t0,8;t0,7;t0,0;h9,0;h9,1;h9,0;h9,0;h9,0;h10,1;");
        int[][] many = {{4, 2, 0}, {3, 2, 0}, {3, 1, 0}};
        for (int w = 0; w < 3; w++) {
            for (int t = 0; t < 3; t++) {
                Edges.due("tower(" + t + ", 2) ahead of wave " + w, y.tower(t, 2), many[w][t]);
            }
            y.waves(1);
        }
        int[][] all = {{5, 11, 1}, {2, 13, 2}, {0, 11, 0}};
        for (int t = 0; t < 3; t++) {
            for (int what = 0; what <= 2; what++) {
                int tower = t;
                int asked = what;
                Edges.answered(Edges.BUSY, "tower(" + t + ", " + what + ")", x -> x.tower(tower, asked), all[t][what]);
            }
        }
    }

    private static void wave() {
        Edges.sentence("17 wave", "Of WAVE w (0 to 1199); BAD");
        Edges.bounds(Edges.BUSY, "wave(#, 2)", (x, n) -> x.wave(n, 2), 0, 42, 1199, 3);
        Edges.bounds(Edges.BUSY, "wave(1, #)", (x, n) -> x.wave(1, n), 0, 9, 3, 2);
        Edges.bad(Edges.BUSY, "wave(#, 0)", (x, n) -> x.wave(n, 0), -1, 1200);
        Edges.due("a wave that came in", behind(999).make().wave(0, 2), 42);
        Edges.answered(Edges.BUSY, "wave(4, 1)", x -> x.wave(4, 1), 6);
        Edges.sentence("17 wave", "STATE: no SEA (ahead of BAD)");
        int[][] cases = {{0, 0}, {1199, 3}, {-1, 0}, {1200, 0}, {0, -1}, {0, 4}, {Edges.MIN, Edges.MAX}};
        for (int[] c : cases) {
            Edges.refused(Edges.NO_SEA, "wave(" + c[0] + ", " + c[1] + ")", x -> x.wave(c[0], c[1]), Edges.STATE);
        }
    }

    public static void main(String[] args) {
        wrap();
        lift();
        water();
        counting();
        calling();
        crossing();
        waves();
        slip();
        law();
        change();
        heeds();
        acts();
        undo();
        ship();
        tower();
        wave();
        Edges.end();
    }
}
