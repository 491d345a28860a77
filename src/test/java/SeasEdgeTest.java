/** The edges of part 1 (TEXTS, FAULTS) and of promises 6 to 8, a test for each sentence that names one. */
public final class SeasEdgeTest {
    /** The longest sea that there is: each number of two figures, as many swells, towers, ships as there is room for. */
    private static final String LONGEST = "b60,09;" + "p30;".repeat(20) + "t07,08;".repeat(3) + "h99,02;".repeat(6);
    private static final String[] FAULTY = {"", "?", "b61", "b0,0;p0;t0,0;t0,0;t0,0;t"};

    /** A busy object with no byte on the tape, whose latest fault had a number. */
    private static Edges.Begin withFault(int number) {
        return () -> Edges.busy(FAULTY[number], "");
    }

    private static final Edges.Begin[] FAULTED = {null, withFault(1), withFault(2), withFault(3)};

    /** The fault's place and number; nothing else changes but that the tape, which was empty, is. */
    private static void dueFault(String text, int place, int number) {
        Edges.refused(FAULTED[number], "sea() of " + text, x -> Edges.read(x, text), -1000100 - place);
        NinthWave x = new NinthWave();
        Edges.due("sea() of " + text, Edges.read(x, text), -1000100 - place);
        Edges.due("fault() of " + text, x.fault(), number);
        Edges.due("the law behind " + text, x.count(5), 0);
    }

    private static void dueSea(String text, int swells) {
        NinthWave x = new NinthWave();
        Edges.due("sea() of " + text, Edges.read(x, text), swells);
        Edges.due("swells of " + text, x.count(1), swells);
        Edges.due("no fault of " + text, x.fault(), 0);
    }

    private static void bytes() {
        Edges.sentence("6 feed", "A byte (0 to 255) comes behind the tape: how many it has. BAD");
        Edges.bounds(Edges.BLANK, "feed(#)", (x, n) -> x.feed(n), 0, 1, 255, 1);
        Edges.bounds(Edges.BUSY, "feed(#)", (x, n) -> x.feed(n), 0, 3, 255, 3);
    }

    /** 160 bytes, of which 150 tell a sea. */
    private static final Edges.Begin FULL = () -> {
        NinthWave x = Edges.told("b9,0;p0;t0,0;h0,0;");
        x.waves(3);
        String text = LONGEST + "psdlmtbh,;";
        for (int i = 0; i < text.length(); i++) {
            x.feed(text.charAt(i));
        }
        return x;
    };

    private static void fullTape() {
        Edges.sentence("6 feed", "THE TAPE has at most 160 bytes; FULL");
        NinthWave fed = new NinthWave();
        for (int k = 1; k <= 160; k++) {
            Edges.due("feed, byte " + k, fed.feed(k), k);
        }
        Edges.due("one more", fed.feed(161), Edges.FULL);
        Edges.due("160 bytes", FULL.make().count(8), 160);
        for (int letter : new int[] {0, 'b', ';', 255}) {
            Edges.refused(FULL, "feed(" + letter + ") behind 160", x -> x.feed(letter), Edges.FULL);
        }
        Edges.sentence("6 feed", "BAD ahead of FULL");
        Edges.bad(FULL, "feed(#) behind 160", (x, n) -> x.feed(n), -1, 256);
        NinthWave x = FULL.make();
        x.feed('b');
        Edges.due("the sea and ten bytes more", x.sea(), -1000100 - 150);
        Edges.due("empty then", x.feed('b'), 1);
    }

    private static void emptyThen() {
        Edges.sentence("7 sea", "The tape, empty then, is read");
        NinthWave x = Edges.told("b0,0;p0;t0,0;");
        Edges.due("no bytes behind a sea", x.count(8), 0);
        Edges.due("an empty tape", x.sea(), -1000100);
        Edges.due("fault 1", x.fault(), 1);
        Edges.due("the sea stays", x.count(1), 1);
        Edges.read(x, "b0,0;p0;p");
        Edges.due("no bytes behind a fault", x.count(8), 0);
        Edges.due("the first again", x.feed('b'), 1);
        Edges.refused(FAULTED[1], "sea() of an empty tape", y -> y.sea(), -1000100);
    }

    private static void ends() {
        Edges.sentence("1 FAULTS", "1 .. the end: how many bytes there are");
        for (int n = 0; n <= LONGEST.length(); n++) {
            String text = LONGEST.substring(0, n);
            boolean isSea = text.endsWith(";") && text.indexOf('t') >= 0;
            if (isSea) {
                dueSea(text, 20);
            } else {
                dueFault(text, n, 1);
            }
        }
    }

    /** Behind a text every byte: some may stand there, some are numbers not as told, all others cannot stand there. */
    private static void everyByte(String text, String may, String notAsTold) {
        for (int c = 0; c < 256; c++) {
            NinthWave x = new NinthWave();
            int answer = Edges.read(x, text + (char) c);
            String name = "byte " + c + " behind " + text;
            if (may.indexOf(c) >= 0) {
                Edges.due(name, answer, -1000100 - text.length() - 1);
                Edges.due("fault() of " + name, x.fault(), 1);
            } else {
                Edges.due(name, answer, -1000100 - text.length());
                Edges.due("fault() of " + name, x.fault(), notAsTold.indexOf(c) >= 0 ? 2 : 1);
            }
        }
    }

    private static void tokens() {
        Edges.sentence("1 TEXTS", "TOKENS: letters a to z, NUMBERS, SIGNS , and ; nothing else");
        String figures = "0123456789";
        everyByte("", "b", "");
        everyByte("b", figures, "");
        everyByte("b0,", figures, "");
        everyByte("b0,0;", "psdlm", "");
        everyByte("b0,0;p", figures, "");
        everyByte("b0,0;p0;", "psdlmt", "");
        everyByte("b0,0;p0;t", "01234567", "89");
        everyByte("b0,0;p0;t0,", "012345678", "9");
        everyByte("b0,0;p0;t0,0;", "th", "");
        everyByte("b0,0;p0;t0,0;h", figures, "");
        everyByte("b0,0;p0;t0,0;h0,", "0", "123456789");
        everyByte("b0,0;p0;t0,0;t0,0;h0,", "01", "23456789");
        everyByte("b0,0;p0;t0,0;t0,0;t0,0;h0,", "012", "3456789");
        everyByte("b0,0;p0;t0,0;h0,0;", "h", "");
        Edges.sentence("1 TEXTS", "SIGNS in their places");
        for (int c = 0; c < 256; c++) {
            if (c >= '0' && c <= '9') {
                continue;
            }
            dueFaultBut(',', "b0", c);
            dueFaultBut(',', "b60", c);
            dueFaultBut(';', "b0,0", c);
            dueFaultBut(';', "b0,0;p0", c);
            dueFaultBut(',', "b0,0;p0;t0", c);
            dueFaultBut(',', "b0,0;p0;t0,0;h0", c);
        }
    }

    private static void dueFaultBut(char may, String text, int c) {
        NinthWave x = new NinthWave();
        int place = c == may ? text.length() + 1 : text.length();
        Edges.due("byte " + c + " behind " + text, Edges.read(x, text + (char) c), -1000100 - place);
        Edges.due("fault() of byte " + c + " behind " + text, x.fault(), 1);
    }

    private static void parts() {
        Edges.sentence("1 TEXTS", "sea: bar swell { swell } tower { tower } { ship }");
        dueSea("b0,0;p0;t0,0;", 1);
        dueFault("p0;t0,0;", 0, 1);
        dueFault("t0,0;", 0, 1);
        dueFault("h0,0;", 0, 1);
        dueFault("b0,0;b0,0;p0;t0,0;", 5, 1);
        dueFault("b0,0;t0,0;", 5, 1);
        dueFault("b0,0;h0,0;", 5, 1);
        dueFault("b0,0;p0;h0,0;", 8, 1);
        dueFault("b0,0;p0;b0,0;", 8, 1);
        dueFault("b0,0;p0;t0,0;p0;", 13, 1);
        dueFault("b0,0;p0;t0,0;b0,0;", 13, 1);
        dueFault("b0,0;p0;t0,0;h0,0;t0,0;", 18, 1);
        dueFault("b0,0;p0;t0,0;h0,0;p0;", 18, 1);
        dueFault("b0,0;p0;t0,0;;", 13, 1);
        dueFault("b0,0;p0;t0,0;0", 13, 1);
        dueFault("b,0;", 1, 1);
        dueFault("b0,;", 3, 1);
        dueFault("b0,0,", 4, 1);
        dueFault("b0,0;p;", 6, 1);
        dueFault("b0,0;p0,", 7, 1);
        dueFault("b0,0;p0;t0;", 10, 1);
        dueFault("b0,0;p0;t0,0,", 12, 1);
        dueFault("b0,0;p0;t0,0;h0;", 15, 1);
        dueFault("b0,0;p0;t0,0;h0,0,", 17, 1);
    }

    private static void numbers() {
        Edges.sentence("1 TEXTS", "b DEPTH , EBB ; (0 to 60; 0 to 9); 2 a NUMBER that is not as told");
        dueSea("b0,0;p0;t0,0;", 1);
        dueSea("b60,9;p0;t0,0;", 1);
        dueFault("b61,0;p0;t0,0;", 1, 2);
        dueFault("b99,0;p0;t0,0;", 1, 2);
        dueFault("b60,10;p0;t0,0;", 4, 2);
        dueFault("b0,99;p0;t0,0;", 3, 2);
        Edges.due("DEPTH 60", Edges.told("b60,0;p0;t0,0;").wave(0, 2), 60);
        Edges.due("EBB 9", Edges.told("b60,9;p0;t0,0;").wave(10, 2), 51);
        Edges.sentence("1 TEXTS", "SORT HEIGHT ; (p, s, d, l, m; 0 to 30)");
        String sorts = "psdlm";
        for (int k = 0; k < 5; k++) {
            char sort = sorts.charAt(k);
            NinthWave x = Edges.told("b0,0;" + sort + "30;" + sort + "0;t0,0;");
            Edges.due("HEIGHT 30 of " + sort, x.wave(0, 0), 30);
            Edges.due("HEIGHT 0 of " + sort, x.wave(1, 0), 0);
            Edges.due("KIND of " + sort, x.kind(1), k + 1);
            dueFault("b0,0;" + sort + "31;t0,0;", 6, 2);
            dueFault("b0,0;p1;" + sort + "99;t0,0;", 9, 2);
        }
        Edges.sentence("1 TEXTS", "t SEES , COUNT ; (0 to 7; 0 to 8)");
        NinthWave x = Edges.told("b0,0;p0;t7,8;t0,0;");
        Edges.due("SEES 7", x.tower(0, 0), 7);
        Edges.due("COUNT 8", x.tower(0, 1), 8);
        Edges.due("SEES 0", x.tower(1, 0), 0);
        Edges.due("COUNT 0", x.tower(1, 1), 0);
        dueFault("b0,0;p0;t8,0;", 9, 2);
        dueFault("b0,0;p0;t7,9;", 11, 2);
        dueFault("b0,0;p0;t0,0;t10,0;", 14, 2);
        dueFault("b0,0;p0;t0,0;t7,10;", 16, 2);
    }

    private static void shipNumbers() {
        Edges.sentence("1 TEXTS", "h DRAUGHT , TOWER ; (0 to 99; a TOWER told)");
        String text = "b0,0;p0;";
        for (int towers = 1; towers <= 3; towers++) {
            text += "t0,0;";
            for (int t = 0; t < 5; t++) {
                String ship = text + "h99," + t + ";";
                if (t < towers) {
                    NinthWave x = Edges.told(ship);
                    Edges.due("TOWER of " + ship, x.ship(0, 1), t);
                    Edges.due("DRAUGHT of " + ship, x.ship(0, 0), 99);
                } else {
                    dueFault(ship, text.length() + 4, 2);
                }
            }
        }
        Edges.due("DRAUGHT 0", Edges.told("b0,0;p0;t0,0;h0,0;").ship(0, 0), 0);
        dueFault("b0,0;p0;t0,0;h100,0;", 14, 1);
        Edges.sentence("1 TEXTS", "NUMBERS (figures, 2 at most)");
        dueSea("b00,00;p00;t00,00;h00,00;", 1);
        NinthWave x = Edges.told("b07,09;p08;t07,08;t00,01;h09,01;");
        Edges.due("07 and 08", x.wave(0, 2), 15);
        Edges.due("07", x.tower(0, 0), 7);
        Edges.due("08", x.tower(0, 1), 8);
        Edges.due("09", x.ship(0, 0), 9);
        Edges.due("01", x.ship(0, 1), 1);
    }

    private static void threeFigures() {
        Edges.sentence("1 FAULTS", "1 it cannot stand there, or is none (a run of three figures, at its first)");
        for (String run : new String[] {"000", "001", "060", "999", "0000", "12345"}) {
            dueFault("b" + run + ",0;", 1, 1);
            dueFault("b0," + run + ";", 3, 1);
            dueFault("b0,0;p" + run + ";", 6, 1);
            dueFault("b0,0;p0;t" + run + ",0;", 9, 1);
            dueFault("b0,0;p0;t0," + run + ";", 11, 1);
            dueFault("b0,0;p0;t0,0;h" + run + ",0;", 14, 1);
            dueFault("b0,0;p0;t0,0;h0," + run + ";", 16, 1);
            dueFault(run, 0, 1);
            dueFault("b0,0;" + run, 5, 1);
            dueFault("b0,0;p0;t0,0;" + run, 13, 1);
        }
    }

    private static void room() {
        Edges.sentence("1 FAULTS", "SWELLS 0 .. 19, 20 at most; 3 a swell more than there is room for (its letter)");
        dueSea("b0,0;p0;t0,0;", 1);
        dueSea("b0,0;" + "p0;".repeat(19) + "t0,0;", 19);
        dueSea("b0,0;" + "p0;".repeat(20) + "t0,0;", 20);
        for (char sort : "psdlm".toCharArray()) {
            dueFault("b0,0;" + "p0;".repeat(20) + sort + "0;t0,0;", 65, 3);
            dueFault("b0,0;" + (sort + "0;").repeat(20) + sort, 65, 3);
            dueFault("b0,0;" + "p0;".repeat(20) + sort + "31", 65, 3);
        }
        Edges.sentence("1 FAULTS", "TOWERS 0 .. 2, 3 at most; 3 a tower more (its letter)");
        for (int towers = 1; towers <= 3; towers++) {
            Edges.due("towers", Edges.told("b0,0;p0;" + "t0,0;".repeat(towers)).count(2), towers);
        }
        dueFault("b0,0;p0;" + "t0,0;".repeat(4), 23, 3);
        dueFault("b0,0;p0;" + "t0,0;".repeat(3) + "t", 23, 3);
        dueFault("b0,0;p0;" + "t0,0;".repeat(3) + "t9,9", 23, 3);
        Edges.sentence("1 FAULTS", "SHIPS 0 .. 5, 6 at most; 3 a ship more (its letter)");
        for (int ships = 0; ships <= 6; ships++) {
            Edges.due("ships", Edges.told("b0,0;p0;t0,0;" + "h0,0;".repeat(ships)).count(3), ships);
        }
        dueFault("b0,0;p0;t0,0;" + "h0,0;".repeat(7), 43, 3);
        dueFault("b0,0;p0;t0,0;" + "h0,0;".repeat(6) + "h", 43, 3);
        dueFault("b0,0;p0;t0,0;" + "h0,0;".repeat(6) + "h0,9", 43, 3);
    }

    private static void firstToken() {
        Edges.sentence("1 FAULTS", "the first TOKEN that has one (its first byte)");
        dueFault("b61,10;", 1, 2);
        dueFault("b61?", 1, 2);
        dueFault("b61", 1, 2);
        dueFault("b0,10?", 3, 2);
        dueFault("b0?61", 2, 1);
        dueFault("b0,0;p31?", 6, 2);
        dueFault("b0,0;p0;t8?", 9, 2);
        dueFault("b0,0;p0;t8,9;", 9, 2);
        dueFault("b0,0;p0;t0,0;h0,1?", 16, 2);
        dueFault("b0,0;p0;t0,0;h100,9;", 14, 1);
        dueFault("b0,0;p31;" + "p0;".repeat(21), 6, 2);
        dueFault("b0,0;" + "p0;".repeat(21) + "q", 65, 3);
        Edges.sentence("1 FAULTS", "of one TOKEN the least");
        dueFault("b0,0;p0;" + "t0,0;".repeat(3) + "h0,0;t", 28, 1);
        dueFault("b0,0;" + "p0;".repeat(20) + "t0,0;p", 70, 1);
        dueFault("b0,0;" + "p0;".repeat(20) + "h0,0;", 65, 1);
        dueFault("b0,0;p0;t0,0;" + "h0,0;".repeat(6) + "t0,0;", 43, 1);
        dueFault("b0,0;p0;t0,0;99", 13, 1);
        dueFault("b0,99", 3, 2);
        dueFault("61", 0, 1);
    }

    private static void inPlaceOfTheOneBefore() {
        Edges.sentence("1 TEXTS", "A SEA that is read stands in place of the one before (none at first)");
        String text = "b30,4;d7;s9;t1,4;t2,5;h20,1;h21,0;h22,1;";
        NinthWave x = Edges.ACTED.make();
        x.sea();
        Edges.due("sea()", Edges.read(x, text), 2);
        int[] counts = {6, 2, 2, 3, 0, 9, 3, 0, 0};
        for (int what = 0; what <= 8; what++) {
            Edges.due("count(" + what + ")", x.count(what), counts[what]);
        }
        int[][] ships = {{20, 1, 0, 0, Edges.NONE}, {21, 0, 1, 0, Edges.NONE}, {22, 1, 2, 0, Edges.NONE}};
        for (int s = 0; s < 3; s++) {
            for (int what = 0; what <= 4; what++) {
                Edges.due("ship(" + s + ", " + what + ")", x.ship(s, what), ships[s][what]);
            }
        }
        Edges.due("COUNT 4", x.tower(0, 1), 4);
        Edges.due("COUNT 5", x.tower(1, 1), 5);
        Edges.due("no third tower", x.tower(2, 0), Edges.BAD);
        Edges.due("no fourth ship", x.ship(3, 0), Edges.BAD);
        Edges.due("no third swell", x.kind(2), Edges.BAD);
        Edges.due("no ACT can be undone", x.undo(), Edges.STATE);
        Edges.due("the tape", x.feed('b'), 1);
        Edges.Begin fresh = () -> {
            NinthWave y = Edges.NO_SEA.make();
            y.sea();
            Edges.read(y, text);
            return y;
        };
        Edges.Begin twice = () -> {
            NinthWave y = Edges.NO_SEA.make();
            y.sea();
            Edges.read(y, "b60,9;m1;l2;p3;t7,7;t6,6;t5,5;h1,2;h2,2;h3,2;h4,2;h5,2;h6,2;");
            y.waves(24);
            y.law(2);
            y.change(0, 5);
            y.waves(20);
            // What is foretold by other laws, behind other waves, leaves nothing either.
            y.laws(200, 0);
            y.heed(0);
            Edges.read(y, text);
            return y;
        };
        Edges.dueSame("the one before leaves nothing", twice, fresh);
        NinthWave smaller = Edges.told(text);
        smaller.laws(200, 0);
        Edges.due("one swell", Edges.read(smaller, "b1,1;l1;t1,1;"), 1);
        Edges.due("one tower", smaller.count(2), 1);
        Edges.due("no ship", smaller.count(3), 0);
        Edges.due("none waits", smaller.count(6), 0);
        Edges.due("wave 0", smaller.count(4), 0);
        Edges.sentence("7 sea", "-1000100 less the place of a FAULT: all stays");
        Edges.refused(FAULTED[2], "sea() of a fault behind ships", y -> Edges.read(y, text + "h99,3;"), -1000100 - 44);
        foretoldBehindFault();
    }

    /** What is foretold of a sea is foretold behind each fault of another text, too. */
    private static void foretoldBehindFault() {
        String other = "b1,9;m30;l30;m29;t6,0;t6,1;t6,2;h99,2;h98,1;h97,0;h96,2;h95,1;h94,0;";
        for (int n = 0; n <= other.length(); n++) {
            NinthWave x = Edges.told("b40,2;p9;s9;d9;t1,3;t0,7;h40,0;h41,1;h42,0;");
            Edges.fill(x, 0, 2, 3, 10);
            Edges.read(x, other.substring(0, n) + "?");
            // Tower 0 counts 1 2 1 from 3 on: 4 6 7 | 8 10 11 | 12 14 15 | 16 18 19; tower 1 calls waves 1, 10, 19.
            Edges.due("called(0, 0)", x.called(0, 0), 4);
            Edges.due("called(0, 1)", x.called(0, 1), 10);
            Edges.due("called(1, 2)", x.called(1, 2), 19);
            Edges.due("the log of wave 3: COUNT 4 by 1 2 1, COUNT 5 by 1 1 1", x.log(0, 0, 1, 0), 4 + 4);
            Edges.due("the first of them", x.log(0, 0, 1, 1), 33);
            // SEED 1: d 13, m 29, l, l, p 29: tower 1, with COUNT 7, calls the fifth, by WATER 69; tower 0 not yet.
            Edges.due("season(4, 1, 0)", x.season(4, 1, 0), 0);
            Edges.due("season(5, 1, 0)", x.season(5, 1, 0), 1);
            Edges.due("season(5, 1, 1)", x.season(5, 1, 1), 0);
        }
    }

    private static void fault() {
        Edges.sentence("8 fault", "The number of the latest FAULT; 0 before one");
        NinthWave x = new NinthWave();
        Edges.due("before one", x.fault(), 0);
        x.feed(-1);
        x.waves(1);
        Edges.due("a refusal is none", x.fault(), 0);
        Edges.read(x, "b0,0;p0;t0,0;");
        Edges.due("a sea is none", x.fault(), 0);
        for (int number : new int[] {1, 2, 3, 2, 1, 3, 1}) {
            Edges.read(x, FAULTY[number]);
            Edges.due("the latest", x.fault(), number);
            Edges.read(x, "b0,0;p0;t0,0;");
            Edges.due("the latest, behind a sea", x.fault(), number);
        }
        Edges.answered(Edges.BUSY, "fault()", y -> y.fault(), 2);
    }

    public static void main(String[] args) {
        bytes();
        fullTape();
        emptyThen();
        ends();
        tokens();
        parts();
        numbers();
        shipNumbers();
        threeFigures();
        room();
        firstToken();
        inPlaceOfTheOneBefore();
        fault();
        Edges.end();
    }
}
