/** The boundaries that promises 35 to 39 name: sheet, lay, read, torn, count. */
public final class EdgeSheetTest {
    private static final Checks CHECKS = new Checks();
    private static final String KEY = "tell 'alike 0 1;'";

    public static void main(String[] args) {
        p35SheetsAndLanes();
        p35From0To40Cells();
        p35SizeBelow0();
        p35ANewRow();
        p36SheetsAndCells();
        p36Nothing();
        p36LowestBits();
        p37SheetsLanesHowMany();
        p37FromCellOn();
        p37NoneAreRead();
        p37Nothing();
        p37AnotherLane();
        p37WholeAheadCame();
        p37RefusedByStrike();
        p37RefusedAsFull();
        p37TheFirstMet();
        p38OfTheLatestRead();
        p38ReadThatCameToAnEnd();
        p39WhatIsCounted();
        p39NoneAndMost();
        CHECKS.finish();
    }

    private static Edge edge(int promise, String sentence) {
        return new Edge(CHECKS, promise, sentence);
    }

    private static void p35SheetsAndLanes() {
        edge(35, "SHEETS 0 to 3, lanes 0 to 2").takesWithin("sheet(#, 0, 1)", 0, 1, 3, 1).takesWithin("sheet(0, #, 1)", 0, 1, 2, 1)
            .takesWithin("sheet(3, #, 40)", 0, 1, 2, 1).on().takesWithin("sheet(#, 2, 0)", 0, 1, 3, 1);
    }

    private static void p35From0To40Cells() {
        edge(35, "0 to 40 CELLS; BAD: also n above 40").refused("sheet(0, 0, 41) = BAD").refused("sheet(0, 0, MAX) = BAD")
            .refused("sheet(3, 2, 41) = BAD").taken("sheet(0, 0, 0) = 1", "count(3) = 0", "lay(0, 0, 1) = -12")
            .taken("sheet(0, 0, 1) = 1", "count(3) = 1", "lay(0, 0, 1) = 1", "lay(0, 1, 1) = -12")
            .taken("sheet(0, 2, 40) = 1", "count(3) = 40", "lay(0, 39, 1) = 1", "lay(0, 40, 1) = -12");
    }

    private static void p35SizeBelow0() {
        edge(35, "-10 - 4: SIZE (below 0); BAD ahead of it").refused("sheet(0, 0, -1) = -14").refused("sheet(2, 1, -1) = -14")
            .refused("sheet(3, 2, MIN) = -14").refused("sheet(4, 0, -1) = BAD").refused("sheet(-1, 0, -1) = BAD")
            .refused("sheet(0, 3, -1) = BAD").refused("sheet(0, -1, -1) = BAD").on().refused("sheet(0, 0, -1) = -14")
            .taken("sheet(0, 0, -1) = -14", "count(3) = NONE", "lay(0, 0, 0) = -11", "torn() = 0");
    }

    private static void p35ANewRow() {
        edge(35, "a new row of CELLS 0").taken("read(2, 2, 0, 1) = 1", "press(3, 0) = 99", "sheet(2, 2, 3) = 1", "read(2, 2, 0, 1) = 1",
                "press(4, 0) = 0", "press(4, 1) = 0", "press(4, 2) = 0")
            .taken("sheet(2, 0, 6) = 1", "read(2, 2, 0, 1) = 0", "torn() = 3", "read(2, 0, 3, 1) = 1", "press(3, 0) = 0")
            .onRich("sheet(0, 0, 40)", "lay(0, 39, 1)", "sheet(0, 0, 3)", "sheet(0, 0, 40)")
            .taken("read(0, 0, 37, 1) = 1", "press(3, 2) = 0");
    }

    private static void p36SheetsAndCells() {
        edge(36, "CELL i of a SHEET; BAD: k; INDEX").taken("lay(0, 0, 1) = 1").taken("lay(0, 6, 1) = 1").refused("lay(0, 7, 1) = -12")
            .refused("lay(0, -1, 1) = -12").refused("lay(0, MIN, 1) = -12").refused("lay(0, MAX, 1) = -12").refused("lay(0, 40, 1) = -12")
            .taken("lay(1, 3, 1) = 1").refused("lay(1, 4, 1) = -12").taken("lay(2, 2, 1) = 1").refused("lay(2, 3, 1) = -12")
            .refused("lay(-1, 0, 1) = BAD").refused("lay(4, 0, 1) = BAD").refused("lay(MIN, 0, 1) = BAD").refused("lay(MAX, 0, 1) = BAD")
            .refused("lay(4, -1, 1) = BAD").onRich("sheet(3, 2, 3)").taken("lay(3, 2, 1) = 1").refused("lay(3, 3, 1) = -12")
            .onRich("sheet(0, 1, 0)").refused("lay(0, 0, 1) = -12").refused("lay(0, -1, 1) = -12");
    }

    private static void p36Nothing() {
        edge(36, "NULL (nothing), ahead of INDEX").refused("lay(3, 0, 1) = -11").refused("lay(3, -1, 1) = -11").refused("lay(3, 40, 1) = -11")
            .on().refused("lay(0, 0, 0) = -11").refused("lay(3, MAX, 0) = -11").refused("lay(4, 0, 0) = BAD");
    }

    /** What comes of a value as TICK of a PRESS: it, or -20 if it is out of its bounds. */
    private static void cell(Edge e, int lane, long v, int tick) {
        e.on(KEY, "sheet(1, " + lane + ", 3)");
        String lay = "lay(1, 0, " + v + ") = 1";
        String read = "read(1, " + lane + ", 0, 1) = ";
        if (tick < 0) {
            e.taken(lay, read + "-20", "rule(1) = 0");
        } else {
            e.taken(lay, read + "1", "press(0, 0) = " + tick, "press(0, 1) = 0", "press(0, 2) = 0");
        }
    }

    private static void p36LowestBits() {
        Edge e = edge(36, "becomes v (its lowest bits)");
        int[][] bytes = {{99, 99}, {100, -20}, {127, -20}, {128, -20}, {255, -20}, {256, 0}, {355, 99}, {356, -20}, {-1, -20},
            {-128, -20}, {-129, -20}, {-157, 99}, {-156, -20}, {-256, 0}, {65536, 0}, {0x7fffff63, 99}, {Integer.MIN_VALUE, 0},
            {Integer.MAX_VALUE, -20}};
        for (int[] c : bytes) {
            cell(e, 0, c[0], c[1]);
        }
        int[][] shorts = {{99, 99}, {100, -20}, {256, -20}, {355, -20}, {32767, -20}, {32768, -20}, {65535, -20}, {65536, 0},
            {65635, 99}, {65636, -20}, {-1, -20}, {-32769, -20}, {-65437, 99}, {-65536, 0}, {0x7fff0063, 99}, {Integer.MIN_VALUE, 0}};
        for (int[] c : shorts) {
            cell(e, 1, c[0], c[1]);
        }
        int[][] ints = {{0, 0}, {99, 99}, {100, -20}, {-1, -20}, {256, -20}, {65536, -20}, {65635, -20}, {Integer.MIN_VALUE, -20},
            {Integer.MAX_VALUE, -20}};
        for (int[] c : ints) {
            cell(e, 2, c[0], c[1]);
        }
    }

    private static void p37SheetsLanesHowMany() {
        edge(37, "n (0 to 13) PRESSES of a SHEET taken as of a lane; BAD: k, lane, n").takesWithin("read(#, 2, 0, 0)", 0, 0, 3, 0)
            .takesWithin("read(#, 0, 0, 1)", 0, 1, 3, 0).takesWithin("read(2, #, 0, 1)", 0, 0, 2, 1)
            .takesWithin("read(0, 0, 0, #)", 0, 0, 13, 2).refused("read(3, 0, 0, 14) = BAD").refused("read(4, 0, MIN, 0) = BAD")
            .refused("read(0, 3, 0, 0) = BAD").refused("read(4, 3, 0, 14) = BAD")
            .on(KEY, "sheet(0, 2, 24)").taken("read(0, 2, 0, 13) = 8", "torn() = 2", "rule(1) = 8").refused("read(0, 2, 0, 14) = BAD")
            .on(KEY, "sheet(0, 2, 40)").refused("read(0, 2, 1, 13) = -28").refused("read(0, 2, 0, 9) = -28")
            .taken("read(0, 2, 0, 8) = 8", "torn() = 0");
    }

    private static void p37FromCellOn() {
        edge(37, "three CELLS each from CELL f on; INDEX").on(KEY, "sheet(0, 0, 9)", "lay(0, 6, 77)")
            .taken("read(0, 0, 6, 1) = 1", "torn() = 0", "press(0, 0) = 77").taken("read(0, 0, 7, 1) = 0", "torn() = 2", "rule(1) = 0")
            .taken("read(0, 0, 8, 1) = 0", "torn() = 2").taken("read(0, 0, 9, 1) = 0", "torn() = 2")
            .taken("read(0, 0, 0, 1) = 1", "torn() = 0").taken("read(0, 0, -1, 1) = 0", "torn() = 2")
            .taken("read(0, 0, -3, 2) = 0", "torn() = 2").taken("read(0, 0, MIN, 13) = 0", "torn() = 2")
            .taken("read(0, 0, MAX, 13) = 0", "torn() = 2").taken("read(0, 0, 2147483646, 13) = 0", "torn() = 2")
            .taken("read(0, 0, 2147483645, 13) = 0", "torn() = 2")
            .on(KEY, "sheet(0, 0, 2)").taken("read(0, 0, 0, 1) = 0", "torn() = 2").on(KEY, "sheet(0, 0, 3)").taken("read(0, 0, 0, 1) = 1", "torn() = 0")
            .on(KEY, "sheet(0, 0, 0)").taken("read(0, 0, 0, 1) = 0", "torn() = 2")
            .on(KEY, "sheet(0, 0, 40)").taken("read(0, 0, 37, 1) = 1", "torn() = 0").taken("read(0, 0, 38, 1) = 0", "torn() = 2");
    }

    private static void p37NoneAreRead() {
        Edge e = edge(37, "n is 0: none is read, so nothing is refused");
        String[] calls = {"read(0, 0, 0, 0)", "read(0, 1, 0, 0)", "read(0, 0, 7, 0)", "read(0, 0, MIN, 0)", "read(1, 2, MAX, 0)", "read(3, 0, 0, 0)"};
        for (String call : calls) {
            e.taken(call + " = 0", "torn() = 0", "rule(1) = 3");
        }
        e.onRich("strike(1, 0, 1) * 5").taken("read(0, 0, 0, 0) = 0", "torn() = 0", "rule(1) = 8");
        e.on("sheet(3, 0, 0)").taken("read(3, 1, 0, 0) = 0", "torn() = 0");
    }

    private static void p37Nothing() {
        edge(37, "NULL").taken("read(3, 0, 0, 1) = 0", "torn() = 1", "rule(1) = 3").taken("read(3, 2, -1, 13) = 0", "torn() = 1")
            .taken("read(3, 1, MAX, 1) = 0", "torn() = 1").on().taken("read(0, 0, 0, 1) = 0", "torn() = 1");
    }

    private static void p37AnotherLane() {
        edge(37, "CAST (another lane)").taken("read(0, 0, 0, 1) = 1", "torn() = 0").taken("read(0, 1, 0, 1) = 0", "torn() = 3", "rule(1) = 3")
            .taken("read(0, 2, 0, 1) = 0", "torn() = 3").taken("read(1, 1, 1, 1) = 1", "torn() = 0").taken("read(1, 0, 1, 1) = 0", "torn() = 3")
            .taken("read(1, 2, 1, 1) = 0", "torn() = 3").taken("read(2, 2, 0, 1) = 1", "torn() = 0").taken("read(2, 0, 0, 1) = 0", "torn() = 3")
            .taken("read(2, 1, 0, 1) = 0", "torn() = 3").taken("read(0, 1, -1, 1) = 0", "torn() = 3").taken("read(0, 1, 40, 1) = 0", "torn() = 3")
            .on("sheet(0, 0, 0)").taken("read(0, 1, 0, 1) = 0", "torn() = 3");
    }

    private static void p37WholeAheadCame() {
        edge(37, "what the machine refuses: those that were whole ahead came").taken("read(0, 0, 0, 2) = 2", "torn() = 0", "rule(1) = 5")
            .taken("read(0, 0, 0, 3) = 2", "torn() = 2", "rule(1) = 5", "press(3, 0) = 5", "press(3, 1) = 0", "press(3, 2) = 1",
                "press(4, 0) = 8", "press(4, 1) = 1", "press(4, 2) = 0")
            .on(KEY, "sheet(0, 0, 8)").taken("read(0, 0, 0, 3) = 2", "torn() = 2", "rule(1) = 2")
            .on(KEY, "sheet(0, 0, 9)").taken("read(0, 0, 0, 3) = 3", "torn() = 0").taken("read(0, 0, 0, 4) = 3", "torn() = 2", "rule(1) = 3");
    }

    private static void p37RefusedByStrike() {
        Edge e = edge(37, "-20 less i: the i-th, whole, is refused by strike() (in whichever way): then none came");
        int[][] wrong = {{0, -1}, {0, 100}, {1, -1}, {1, 2}, {2, -1}, {2, 2}};
        int[][] right = {{0, 0}, {0, 99}, {1, 0}, {1, 1}, {2, 0}, {2, 1}};
        for (int lane = 0; lane < 3; lane++) {
            for (int i = 0; i < 3; i++) {
                for (int c = 0; c < wrong.length; c++) {
                    String sheet = "sheet(3, " + lane + ", 9)";
                    String read = "read(3, " + lane + ", 0, 3) = ";
                    e.onRich(sheet, "lay(3, " + (3 * i + wrong[c][0]) + ", " + wrong[c][1] + ")").refused(read + (-20 - i));
                    e.onRich(sheet, "lay(3, " + (3 * i + right[c][0]) + ", " + right[c][1] + ")").taken(read + "3", "rule(1) = 6",
                        "press(" + (3 + i) + ", " + right[c][0] + ") = " + right[c][1]);
                }
            }
        }
        e.on("sheet(0, 0, 3)").refused("read(0, 0, 0, 1) = -20");
    }

    private static void p37RefusedAsFull() {
        Edge e = edge(37, "the i-th is refused by strike() as FULL");
        for (int there = 3; there <= 8; there++) {
            int room = 8 - there;
            String[] steps = {"sheet(3, 0, 40)", "strike(1, 0, 1) * " + (there - 3)};
            e.onRich(steps).taken("read(3, 0, 0, " + room + ") = " + room, "torn() = 0", "rule(1) = 8");
            e.onRich(steps).refused("read(3, 0, 0, " + (room + 1) + ") = " + (-20 - room));
            e.onRich(steps).refused("read(3, 0, 0, 13) = " + (-20 - room));
        }
    }

    private static void p37TheFirstMet() {
        edge(37, "the first met").onRich("sheet(3, 0, 7)", "lay(3, 3, 100)").refused("read(3, 0, 0, 3) = -21")
            .onRich("sheet(3, 0, 7)", "lay(3, 6, 100)").taken("read(3, 0, 0, 3) = 2", "torn() = 2", "rule(1) = 5")
            .onRich("sheet(3, 0, 9)", "lay(3, 3, 100)", "lay(3, 6, 100)").refused("read(3, 0, 0, 3) = -21")
            .onRich("sheet(3, 0, 5)", "strike(1, 0, 1) * 5").refused("read(3, 0, 0, 1) = -20").taken("read(3, 0, 3, 1) = 0", "torn() = 2")
            .taken("read(3, 1, 0, 1) = 0", "torn() = 3").onRich("strike(1, 0, 1) * 5").taken("read(3, 1, 0, 1) = 0", "torn() = 1")
            .refused("read(0, 0, 0, 14) = BAD");
    }

    private static void p38OfTheLatestRead() {
        edge(38, "the FAULT of the latest read(); 0").on().asked("torn() = 0").onRich().asked("torn() = 3")
            .taken("read(3, 0, 0, 1) = 0", "torn() = 1", "torn() = 1", "read(0, 0, 5, 1) = 0", "torn() = 2", "read(0, 2, 0, 1) = 0",
                "torn() = 3", "read(0, 0, 0, 1) = 1", "torn() = 0")
            .taken("sheet(0, 0, -1) = -14", "torn() = 3").taken("lay(3, 0, 0) = -11", "torn() = 3").taken("text() = 1", "torn() = 3")
            .taken("back(0) = 0", "torn() = 3");
    }

    private static void p38ReadThatCameToAnEnd() {
        edge(38, "the latest read() that came to an end").taken("read(4, 0, 0, 1) = BAD", "torn() = 3").taken("read(0, 3, 0, 1) = BAD", "torn() = 3")
            .taken("read(0, 0, 0, 14) = BAD", "torn() = 3").taken("lay(0, 0, 100) = 1", "read(0, 0, 0, 1) = -20", "torn() = 3")
            .taken("lay(0, 3, 100) = 1", "read(0, 0, 0, 3) = -21", "torn() = 3", "read(0, 0, 0, 1) = 1", "torn() = 0");
    }

    private static void p39WhatIsCounted() {
        edge(39, "what 0 to 5").asksWithin("count(#)", 0, 2, 5, 8).asked("count(1) = 2").asked("count(2) = 9").asked("count(3) = 7")
            .asked("count(4) = 2").on().asksWithin("count(#)", 0, 0, 5, 0).refused("count(3) = NONE");
    }

    private static void p39NoneAndMost() {
        edge(39, "how many: none and most of them").on().asked("count(1) = 0").asked("count(2) = 0").asked("count(4) = 0")
            .on("sheet(0, 0, 0)").asked("count(3) = 0").on("sheet(0, 1, 40)").asked("count(3) = 40")
            .on("sheet(1, 0, 9)").refused("count(3) = NONE").on("feed(32) * 160").asked("count(2) = 160")
            .on("tell 'alike 9 9;scale 9 9;shut 9 9;both 9 9;'").asked("count(4) = 36").asked("count(5) = 36")
            .taken("see(0, 0, 0) = 1", "count(0) = 1").taken("alter(3, 0, 0) = 9", "count(4) = 27").taken("alter(0, 2, 1) = 9", "count(5) = 28")
            .on(KEY, "see(0, 0, 0) * 6").asked("count(0) = 6").on("keep(1)").asked("count(1) = 1").on("keep(0)", "keep(1)").asked("count(1) = 2");
    }
}
