/** The edges of part 1 (ROWS) and of promises 1 to 5, a test for each sentence that names one. */
public final class RowsEdgeTest {
    private static final int[] LANES = {0, 1, 2};

    /** Plain waves by LAW 9: the log of one wave, 0 .. 8, tells which it is. */
    private static NinthWave plain() {
        return Edges.told("b0,0;p0;t0,0;");
    }

    private static void dueItems(String what, NinthWave x, int row, int... items) {
        for (int i = 0; i < items.length; i++) {
            Edges.due(what + ", item " + i, 8 - x.log(row, i, 1, 1) / 8, items[i]);
        }
        Edges.due(what + ", behind the last", x.log(row, items.length, 1, 1), -1000010 - Edges.PLACE);
    }

    private static void newObject() {
        Edges.sentence("1 a new object", "No SEA");
        NinthWave x = new NinthWave();
        for (int what = 0; what <= 8; what++) {
            Edges.due("count(" + what + ")", x.count(what), 0);
        }
        Edges.due("status()", x.status(), 0);
        Edges.due("fault()", x.fault(), 0);
        Edges.due("trace(0)", x.trace(0), Edges.NONE);
        Edges.refused(Edges.BLANK, "undo()", y -> y.undo(), Edges.STATE);
        Edges.refused(Edges.BLANK, "restore(0)", y -> y.restore(0), Edges.STATE);
        Edges.refused(Edges.BLANK, "restore(1)", y -> y.restore(1), Edges.STATE);
        Edges.refused(Edges.BLANK, "waves(1)", y -> y.waves(1), Edges.STATE);
    }

    private static void missingAtFirst() {
        Edges.sentence("1 ROWS", "ROWS 0 .. 7 are missing (at first)");
        for (int row = 0; row < 8; row++) {
            int r = row;
            Edges.found(Edges.BLANK, "set(" + r + ", 0, 5)", x -> x.set(r, 0, 5), Edges.NULL);
            Edges.found(Edges.BLANK, "drop(" + r + ")", x -> x.drop(r), Edges.NULL);
            Edges.found(Edges.BLANK, "copy(" + r + ", ..)", x -> x.copy(r, 0, r, 0, 0), Edges.NULL);
        }
        NinthWave x = new NinthWave();
        for (int row = 0; row < 8; row++) {
            Edges.due("rows ahead of " + row, x.count(0), row);
            x.row(row, 0, 0);
        }
        Edges.due("all eight", x.count(0), 8);
    }

    private static void rowBounds() {
        Edges.sentence("2 row", "ROWS 0 .. 7; BAD: ROW");
        Edges.bounds(Edges.BUSY, "row(#, 0, 2)", (x, n) -> x.row(n, 0, 2), 0, 2, 7, 2);
        Edges.bounds(Edges.BLANK, "row(#, 0, 2)", (x, n) -> x.row(n, 0, 2), 0, 2, 7, 2);
        Edges.sentence("2 row", "a LANE (0 bytes, 1 shorts, 2 ints); BAD: LANE");
        Edges.bounds(Edges.BUSY, "row(0, #, 2)", (x, n) -> x.row(0, n, 2), 0, 2, 2, 2);
        Edges.bounds(Edges.BLANK, "row(0, #, 2)", (x, n) -> x.row(0, n, 2), 0, 2, 2, 2);
        Edges.sentence("2 row", "0 to 40 ITEMS; BAD: n above 40");
        Edges.due("row(0, 0, 0)", Edges.BUSY.make().row(0, 0, 0), 0);
        Edges.due("row(0, 0, 1)", Edges.BUSY.make().row(0, 0, 1), 1);
        Edges.due("row(0, 0, 39)", Edges.BUSY.make().row(0, 0, 39), 39);
        Edges.due("row(0, 0, 40)", Edges.BUSY.make().row(0, 0, 40), 40);
        Edges.bad(Edges.BUSY, "row(0, 0, #)", (x, n) -> x.row(0, 0, n), 41, 42, Edges.MAX);
        Edges.bad(Edges.BUSY, "row(4, 2, #)", (x, n) -> x.row(4, 2, n), 41, Edges.MAX);
    }

    private static void fewerThanNone() {
        Edges.sentence("2 row", "SIZE (fewer than none)");
        for (int n : new int[] {-1, -2, -40, -41, Edges.MIN}) {
            Edges.found(Edges.BUSY, "row(2, 0, " + n + "), which is there", x -> x.row(2, 0, n), Edges.SIZE);
            Edges.found(Edges.CALM, "row(4, 1, " + n + "), which is missing", x -> x.row(4, 1, n), Edges.SIZE);
        }
        Edges.sentence("2 row", "BAD ahead of SIZE");
        Edges.bad(Edges.BUSY, "row(#, 0, -1)", (x, n) -> x.row(n, 0, -1), -1, 8);
        Edges.bad(Edges.BUSY, "row(0, #, -1)", (x, n) -> x.row(0, n, -1), -1, 3);
    }

    private static void zeroAtFirst() {
        Edges.sentence("2 row", "ITEMS, 0 at first, in place of what is there");
        for (int lane : LANES) {
            for (int n : new int[] {0, 1, 39, 40}) {
                NinthWave x = plain();
                x.row(0, 2 - lane, 40);
                for (int i = 0; i < 40; i++) {
                    x.set(0, i, 5);
                }
                Edges.due("row(0, " + lane + ", " + n + ")", x.row(0, lane, n), n);
                Edges.due("one row", x.count(0), 1);
                dueItems("n " + n, x, 0, new int[n]);
                Edges.due("grown again", x.row(0, lane, 40), 40);
                dueItems("grown again", x, 0, new int[40]);
            }
        }
        NinthWave x = plain();
        Edges.fill(x, 0, 2, 5, 6, 7);
        x.drop(0);
        x.row(0, 2, 3);
        dueItems("behind drop", x, 0, 0, 0, 0);
    }

    private static void lowestBits() {
        Edges.sentence("3 set", "its lowest bits, as many as the LANE has: what it is then");
        int[][] bytes = {{127, 127}, {128, -128}, {255, -1}, {256, 0}, {-128, -128}, {-129, 127}, {261, 5},
            {Edges.MIN, 0}, {Edges.MAX, -1}, {0, 0}, {-1, -1}};
        int[][] shorts = {{127, 127}, {128, 128}, {32767, 32767}, {32768, -32768}, {65535, -1}, {65536, 0},
            {-32768, -32768}, {-32769, 32767}, {65541, 5}, {Edges.MIN, 0}, {Edges.MAX, -1}};
        int[][] ints = {{32768, 32768}, {65536, 65536}, {Edges.MIN, Edges.MIN}, {Edges.MAX, Edges.MAX}, {-1, -1}};
        int[][][] all = {bytes, shorts, ints};
        for (int lane : LANES) {
            NinthWave x = new NinthWave();
            x.row(3, lane, 2);
            for (int[] pair : all[lane]) {
                Edges.due("set(3, 1, " + pair[0] + ") of lane " + lane, x.set(3, 1, pair[0]), pair[1]);
            }
        }
        NinthWave x = plain();
        x.row(0, 0, 2);
        x.row(1, 1, 2);
        x.row(2, 2, 2);
        x.set(0, 1, 256 + 5);
        x.set(1, 1, 65536 + 6);
        x.set(2, 1, 7);
        dueItems("kept as cut", x, 0, 0, 5);
        dueItems("kept as cut", x, 1, 0, 6);
        dueItems("kept", x, 2, 0, 7);
    }

    private static void setRefused() {
        Edges.sentence("3 set", "BAD: ROW");
        Edges.bounds(Edges.BUSY, "set(#, 0, 5)", (x, n) -> x.set(n, 0, 5), 0, 5, 7, 5);
        Edges.sentence("3 set", "NULL, ahead of PLACE");
        Edges.found(Edges.BUSY, "set(4, 0, 5)", x -> x.set(4, 0, 5), Edges.NULL);
        Edges.found(Edges.BUSY, "set(4, -1, 5)", x -> x.set(4, -1, 5), Edges.NULL);
        Edges.found(Edges.BUSY, "set(6, 40, 5)", x -> x.set(6, 40, 5), Edges.NULL);
        Edges.sentence("3 set", "PLACE (no such place of a ROW)");
        Edges.due("the first", Edges.CALM.make().set(2, 0, 5), 5);
        Edges.due("the last", Edges.CALM.make().set(2, 39, 5), 5);
        for (int i : new int[] {-1, 40, 41, Edges.MIN, Edges.MAX}) {
            Edges.found(Edges.CALM, "set(2, " + i + ", 5)", x -> x.set(2, i, 5), Edges.PLACE);
        }
        Edges.due("the last of three", Edges.CALM.make().set(0, 2, 5), 5);
        Edges.found(Edges.CALM, "set(0, 3, 5)", x -> x.set(0, 3, 5), Edges.PLACE);
        Edges.found(Edges.CALM, "set(5, 0, 5), of none", x -> x.set(5, 0, 5), Edges.PLACE);
        Edges.found(Edges.CALM, "set(5, -1, 5), of none", x -> x.set(5, -1, 5), Edges.PLACE);
    }

    private static void copyRefused() {
        Edges.sentence("4 copy", "BAD: ROWS");
        Edges.bounds(Edges.BUSY, "copy(#, 0, #, 1, 1)", (x, n) -> x.copy(n, 0, n, 1, 1), 0, 1, 7, 1);
        Edges.bad(Edges.BUSY, "copy(#, 0, 3, 0, 1)", (x, n) -> x.copy(n, 0, 3, 0, 1), -1, 8, Edges.MIN, Edges.MAX);
        Edges.bad(Edges.BUSY, "copy(3, 0, #, 0, 1)", (x, n) -> x.copy(3, 0, n, 0, 1), -1, 8, Edges.MIN, Edges.MAX);
        Edges.sentence("4 copy", "BAD ahead of NULL");
        Edges.bad(Edges.BUSY, "copy(#, 0, 4, 0, 1)", (x, n) -> x.copy(n, 0, 4, 0, 1), -1, 8);
        Edges.bad(Edges.BUSY, "copy(4, 0, #, 0, 1)", (x, n) -> x.copy(4, 0, n, 0, 1), -1, 8);
        Edges.sentence("4 copy", "NULL, ahead of STORE and PLACE");
        Edges.found(Edges.BUSY, "copy(4, 0, 3, 0, 1)", x -> x.copy(4, 0, 3, 0, 1), Edges.NULL);
        Edges.found(Edges.BUSY, "copy(3, 0, 4, 0, 1)", x -> x.copy(3, 0, 4, 0, 1), Edges.NULL);
        Edges.found(Edges.BUSY, "copy(4, 0, 6, 0, 0)", x -> x.copy(4, 0, 6, 0, 0), Edges.NULL);
        Edges.found(Edges.BUSY, "copy(4, -1, 3, 9, -1)", x -> x.copy(4, -1, 3, 9, -1), Edges.NULL);
        Edges.found(Edges.BUSY, "copy(0, -1, 6, 9, -1)", x -> x.copy(0, -1, 6, 9, -1), Edges.NULL);
        Edges.sentence("4 copy", "STORE (ROWS of two LANES), ahead of PLACE");
        int[][] pairs = {{0, 1}, {1, 0}, {1, 2}, {2, 1}, {0, 2}, {2, 0}};
        for (int[] p : pairs) {
            String rows = p[0] + ", " + p[1];
            Edges.found(Edges.BUSY, "copy of rows " + rows, x -> x.copy(p[0], 0, p[1], 0, 1), Edges.STORE);
            Edges.found(Edges.BUSY, "copy of none, rows " + rows, x -> x.copy(p[0], 0, p[1], 0, 0), Edges.STORE);
            Edges.found(Edges.BUSY, "copy, no place, rows " + rows, x -> x.copy(p[0], -1, p[1], 99, -1), Edges.STORE);
        }
    }

    private static void copyPlaces() {
        Edges.sentence("4 copy", "PLACE (i, j, n below 0, or beyond an end)");
        // Row 3 has three items, row 2 forty, row 7 two.
        int[][] fine = {{3, 0, 2, 37, 3}, {3, 2, 2, 39, 1}, {2, 37, 3, 0, 3}, {2, 39, 3, 2, 1}, {3, 3, 2, 40, 0},
            {2, 40, 3, 3, 0}, {3, 0, 3, 0, 3}, {2, 0, 2, 0, 40}, {7, 0, 7, 0, 0}};
        for (int[] c : fine) {
            NinthWave x = Edges.BUSY.make();
            Edges.due("copy " + c[0] + " " + c[1] + " " + c[2] + " " + c[3] + " " + c[4],
                    x.copy(c[0], c[1], c[2], c[3], c[4]), c[4]);
            Edges.due("status()", x.status(), 0);
        }
        int[][] none = {{3, -1, 2, 0, 1}, {3, 0, 2, -1, 1}, {3, 0, 2, 0, -1}, {3, 1, 2, 0, 3}, {3, 0, 2, 38, 3},
            {3, 3, 2, 0, 1}, {3, 4, 2, 0, 0}, {3, 0, 2, 40, 1}, {3, 0, 2, 41, 0}, {2, 0, 3, 0, 4}, {2, 0, 3, 1, 3},
            {2, 38, 3, 0, 3}, {2, 0, 2, 0, 41}, {3, -1, 2, 0, 0}, {3, 0, 2, -1, 0}, {3, 1, 2, 1, -1},
            {3, Edges.MAX, 2, 0, 1}, {3, 0, 2, Edges.MAX, 1}, {3, 0, 2, 0, Edges.MAX}, {3, 1, 2, 0, Edges.MAX},
            {3, Edges.MIN, 2, 0, 1}, {3, 0, 2, Edges.MIN, 1}, {3, 0, 2, 0, Edges.MIN}, {3, Edges.MIN, 2, 0, Edges.MIN},
            {3, Edges.MAX, 2, Edges.MAX, Edges.MAX}, {3, 3, 2, 3, Edges.MIN}};
        for (int[] c : none) {
            Edges.found(Edges.CALM, "copy " + c[0] + " " + c[1] + " " + c[2] + " " + c[3] + " " + c[4],
                    x -> x.copy(c[0], c[1], c[2], c[3], c[4]), Edges.PLACE);
        }
    }

    private static void copyAsAhead() {
        Edges.sentence("4 copy", "n ITEMS of a from i on come to b from j on, as they were ahead");
        for (int lane : LANES) {
            NinthWave x = plain();
            Edges.fill(x, 0, lane, 1, 2, 3, 4, 5);
            Edges.fill(x, 1, lane, 8, 8, 8, 8);
            Edges.due("into the middle", x.copy(0, 2, 1, 1, 2), 2);
            dueItems("to", x, 1, 8, 3, 4, 8);
            dueItems("from", x, 0, 1, 2, 3, 4, 5);
            Edges.due("one up, in itself", x.copy(0, 0, 0, 1, 4), 4);
            dueItems("up", x, 0, 1, 1, 2, 3, 4);
            Edges.fill(x, 0, lane, 1, 2, 3, 4, 5);
            Edges.due("one down, in itself", x.copy(0, 1, 0, 0, 4), 4);
            dueItems("down", x, 0, 2, 3, 4, 5, 5);
            Edges.due("onto itself", x.copy(0, 0, 0, 0, 5), 5);
            dueItems("the same", x, 0, 2, 3, 4, 5, 5);
            Edges.due("none", x.copy(0, 0, 1, 0, 0), 0);
            dueItems("none", x, 1, 8, 3, 4, 8);
        }
    }

    private static void drop() {
        Edges.sentence("5 drop", "how many ITEMS it had; BAD");
        Edges.bounds(Edges.BUSY, "drop(#)", (x, n) -> x.drop(n), 0, 3, 7, 2);
        Edges.due("drop(2), of forty", Edges.BUSY.make().drop(2), 40);
        Edges.due("drop(5), of none", Edges.BUSY.make().drop(5), 0);
        Edges.sentence("5 drop", "NULL");
        Edges.found(Edges.BUSY, "drop(4)", x -> x.drop(4), Edges.NULL);
        Edges.found(Edges.NO_SEA, "drop(6)", x -> x.drop(6), Edges.NULL);
        Edges.sentence("5 drop", "A ROW is missing from now on");
        Edges.Begin dropped = () -> {
            NinthWave x = Edges.CALM.make();
            x.drop(2);
            return x;
        };
        Edges.due("rows", dropped.make().count(0), 5);
        Edges.found(dropped, "drop(2)", x -> x.drop(2), Edges.NULL);
        Edges.found(dropped, "set(2, 0, 5)", x -> x.set(2, 0, 5), Edges.NULL);
        Edges.found(dropped, "copy(2, ..)", x -> x.copy(2, 0, 3, 0, 1), Edges.NULL);
        Edges.found(dropped, "log(2, ..)", x -> x.log(2, 0, 1, 0), Edges.NULL);
        Edges.due("the others stay", dropped.make().drop(3), 3);
    }

    public static void main(String[] args) {
        newObject();
        missingAtFirst();
        rowBounds();
        fewerThanNone();
        zeroAtFirst();
        lowestBits();
        setRefused();
        copyRefused();
        copyPlaces();
        copyAsAhead();
        drop();
        Edges.end();
    }
}
