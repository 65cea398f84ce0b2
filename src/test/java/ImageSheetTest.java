/** Promises 32 to 39: drift, keep, back, sheet, lay, read, torn, count. */
public final class ImageSheetTest {
    private static final Checks CHECKS = new Checks();

    public static void main(String[] args) {
        driftBySeeds();
        driftFromWhatIs();
        driftRefuses();
        images();
        imagesHoldAll();
        sheet();
        lay();
        lanesHoldLowestBits();
        read();
        readIsRefusedWhole();
        readFaults();
        readOfNoneHasNoFault();
        torn();
        count();
        CHECKS.finish();
    }

    private static void driftBySeeds() {
        KeySieves x = Checks.told("alike 0 1;alike 0 1;alike 0 1;alike 0 1;");
        int[] seeds = {0, 1, -1, 7, 123456789, Integer.MAX_VALUE, Integer.MIN_VALUE};
        for (int seed : seeds) {
            for (int n = 1; n <= 200; n += 33) {
                long drawn = seed;
                int strokes = 0;
                int says = 0;
                for (int i = 0; i < n; i++) {
                    drawn = (drawn * 1103515245L + 12345L) & 0xffffffffL;
                    int got = (int) (drawn / 65536) % 32768;
                    strokes += Integer.bitCount(got & 15 & ~says);
                    says = got & 15;
                }
                CHECKS.due("drift(" + seed + ", " + n + ", 0)", x.drift(seed, n, 0), strokes);
                CHECKS.due("drift(" + seed + ", " + n + ", 1)", x.drift(seed, n, 1), says);
            }
        }
    }

    private static void driftFromWhatIs() {
        // A new sieve that wants two looks alike could not say 1 behind one tick.
        KeySieves x = Checks.told("alike 0 2;press 0 0 1;");
        x.ticks(2);
        CHECKS.due("one tick does not let go", x.drift(7, 1, 1), 1);
        CHECKS.due("no STROKE of what is down", x.drift(7, 1, 0), 0);
        CHECKS.refused("drift(7, 200, 1)", x, () -> x.drift(7, 200, 1), x.drift(7, 200, 1));
        KeySieves rarely = Checks.told("alike 0 1;every 4;");
        rarely.ticks(1);
        for (int seed = 0; seed < 20; seed++) {
            CHECKS.due("no look in ticks 1 to 3", rarely.drift(seed, 3, 0), 0);
        }
        // The seed goes on in ticks without a look: it draws 4 times ahead of the look at 4.
        int drawn = 5;
        for (int i = 0; i < 4; i++) {
            drawn = drawn * 1103515245 + 12345;
        }
        CHECKS.due("the look at 4", rarely.drift(5, 4, 1), drawn >> 16 & 1);
    }

    private static void driftRefuses() {
        KeySieves x = Checks.told("alike 0 1;");
        int[][] wrong = {{0, 0}, {-1, 0}, {201, 0}, {1, -1}, {1, 2}};
        KeySieves none = new KeySieves();
        for (int[] c : wrong) {
            CHECKS.refused("drift(7, " + c[0] + ", " + c[1] + ")", x, () -> x.drift(7, c[0], c[1]), KeySieves.BAD);
            CHECKS.refused("drift without KEYS that is BAD", none, () -> none.drift(7, c[0], c[1]), KeySieves.BAD);
        }
        CHECKS.refused("drift without KEYS", none, () -> none.drift(7, 1, 0), KeySieves.STATE);
    }

    private static void images() {
        KeySieves x = Checks.told("alike 0 1;press 1 0 1;");
        int[] wrong = {-1, 2};
        for (int k : wrong) {
            CHECKS.refused("keep(" + k + ")", x, () -> x.keep(k), KeySieves.BAD);
            CHECKS.refused("back(" + k + ")", x, () -> x.back(k), KeySieves.BAD);
        }
        CHECKS.refused("back(0)", x, () -> x.back(0), KeySieves.STATE);
        CHECKS.due("keep(1)", x.keep(1), 0);
        CHECKS.refused("back(0) with IMAGE 1", x, () -> x.back(0), KeySieves.STATE);
        x.ticks(5);
        CHECKS.due("keep(0)", x.keep(0), 0);
        CHECKS.due("keep(0) again", x.keep(0), 1);
        x.ticks(5);
        CHECKS.due("back(0)", x.back(0), 5);
        CHECKS.due("back(1)", x.back(1), 0);
        CHECKS.due("back(0) once more", x.back(0), 5);
        x.ticks(3);
        CHECKS.due("keep(1) over another", x.keep(1), 1);
        CHECKS.due("back(1) to the later one", x.back(1), 8);
        KeySieves none = new KeySieves();
        CHECKS.due("keep(0) of no KEYS", none.keep(0), 0);
        Checks.tell(none, "alike 0 1;");
        CHECKS.due("back(0) behind a text", none.back(0), KeySieves.STATE);
    }

    private static void imagesHoldAll() {
        KeySieves x = Checks.told("both 1 2;scale 0 5;press 1 0 1;press 2 1 1;press 9 0 0;every 2;");
        x.ticks(7);
        x.see(3, 0, 1);
        x.see(2, 1, 0);
        String kept = Checks.all(x);
        x.keep(0);
        x.alter(0, 0, 9);
        x.alter(0, 1, 1);
        x.alter(1, 2, 1);
        x.strike(8, 1, 0);
        x.drop(1);
        x.strike(7, 1, 0);
        x.every(3);
        x.forget(1);
        x.see(9, 1, 1);
        x.ticks(50);
        CHECKS.due("back(0)", x.back(0), 7);
        CHECKS.same("all is as IMAGE 0", Checks.all(x).replace("count 2 1", "count 2 0"), kept);
        x.alter(1, 1, 2);
        x.strike(3, 0, 0);
        x.ticks(9);
        CHECKS.due("back(0) again", x.back(0), 7);
        CHECKS.same("the IMAGE is its own", Checks.all(x).replace("count 2 1", "count 2 0"), kept);
        x.sheet(0, 2, 9);
        Checks.feed(x, "abc");
        x.back(0);
        CHECKS.due("THE TAPE is in no IMAGE", x.count(2), 3);
        CHECKS.due("SHEETS are in no IMAGE", x.count(3), 9);
    }

    private static void sheet() {
        KeySieves x = new KeySieves();
        int[][] wrong = {{-1, 0, 1}, {4, 0, 1}, {0, -1, 1}, {0, 3, 1}, {0, 0, 41}, {4, 0, -1}, {0, 3, -1},
            {0, 0, Integer.MAX_VALUE}};
        for (int[] c : wrong) {
            CHECKS.refused("sheet of " + c[0] + " " + c[1] + " " + c[2], x, () -> x.sheet(c[0], c[1], c[2]), KeySieves.BAD);
        }
        CHECKS.refused("sheet(0, 0, -1)", x, () -> x.sheet(0, 0, -1), -14);
        CHECKS.refused("sheet(3, 2, MIN)", x, () -> x.sheet(3, 2, Integer.MIN_VALUE), -14);
        CHECKS.due("sheet(0, 0, 0)", x.sheet(0, 0, 0), 1);
        CHECKS.due("CELLS", x.count(3), 0);
        CHECKS.due("sheet(0, 2, 40)", x.sheet(0, 2, 40), 1);
        CHECKS.due("CELLS", x.count(3), 40);
        CHECKS.refused("sheet(0, 1, -1)", x, () -> x.sheet(0, 1, -1), -14);
        CHECKS.due("a refused sheet() leaves the row", x.lay(0, 39, 1), 1);
        KeySieves y = Checks.told("alike 0 1;");
        y.sheet(3, 1, 3);
        y.lay(3, 0, 77);
        y.sheet(3, 1, 3);
        CHECKS.due("read of a new row", y.read(3, 1, 0, 1), 1);
        CHECKS.due("its CELLS are 0", y.press(0, 0), 0);
    }

    private static void lay() {
        KeySieves x = new KeySieves();
        CHECKS.due("lay(-1, 0, 0)", x.lay(-1, 0, 0), KeySieves.BAD);
        CHECKS.due("lay(4, 0, 0)", x.lay(4, 0, 0), KeySieves.BAD);
        CHECKS.due("lay on nothing", x.lay(0, -1, 0), -11);
        x.sheet(0, 0, 5);
        CHECKS.due("lay(0, 0, 1)", x.lay(0, 0, 1), 1);
        CHECKS.due("lay(0, 4, 1)", x.lay(0, 4, 1), 1);
        CHECKS.due("lay(0, 5, 1)", x.lay(0, 5, 1), -12);
        CHECKS.due("lay(0, -1, 1)", x.lay(0, -1, 1), -12);
        CHECKS.due("lay(0, MAX, 1)", x.lay(0, Integer.MAX_VALUE, 1), -12);
        CHECKS.due("lay(1, 0, 1) on nothing", x.lay(1, 0, 1), -11);
    }

    private static void lanesHoldLowestBits() {
        int[] values = {256 + 9, 65536 + 9, -247, 9, 0x7fffff09, 128, 32768};
        int[][] due = {{9, -20, -20}, {9, 9, -20}, {9, -20, -20}, {9, 9, 9}, {9, -20, -20}, {-20, -20, -20}, {0, -20, -20}};
        for (int i = 0; i < values.length; i++) {
            for (int lane = 0; lane < 3; lane++) {
                KeySieves x = Checks.told("alike 0 1;");
                x.sheet(lane, lane, 3);
                CHECKS.due("lay", x.lay(lane, 0, values[i]), 1);
                int came = x.read(lane, lane, 0, 1);
                CHECKS.due(values[i] + " in lane " + lane, came == 1 ? x.press(0, 0) : came, due[i][lane]);
            }
        }
    }

    private static void lay(KeySieves x, int k, int... cells) {
        for (int i = 0; i < cells.length; i++) {
            x.lay(k, i, cells[i]);
        }
    }

    private static void read() {
        KeySieves x = Checks.told("alike 0 1;alike 0 1;");
        x.sheet(1, 2, 10);
        lay(x, 1, 9, 5, 1, 1, 99, 0, 0, 7, 1, 0);
        CHECKS.due("read of 0", x.read(1, 2, 0, 0), 0);
        CHECKS.due("read of one", x.read(1, 2, 4, 1), 1);
        CHECKS.due("its TICK", x.press(0, 0), 99);
        CHECKS.refused("read of a KEY that is not", x, () -> x.read(1, 2, 0, 1), -20);
        x.drop(0);
        CHECKS.due("read of three from 1 on", x.read(1, 2, 1, 3), 3);
        int[][] due = {{5, 1, 1}, {99, 0, 0}, {7, 1, 0}};
        for (int i = 0; i < 3; i++) {
            for (int what = 0; what < 3; what++) {
                CHECKS.due("press(" + i + ", " + what + ")", x.press(i, what), due[i][what]);
            }
        }
        CHECKS.due("torn()", x.torn(), 0);
    }

    private static void readIsRefusedWhole() {
        KeySieves x = Checks.told("alike 0 1;press 3 0 1;");
        x.sheet(0, 0, 40);
        for (int i = 0; i < 40; i++) {
            x.lay(0, i, 0);
        }
        CHECKS.refused("read of more than there is room for", x, () -> x.read(0, 0, 0, 8), -27);
        CHECKS.refused("read of 13", x, () -> x.read(0, 0, 0, 13), -27);
        x.lay(0, 5, 2);
        CHECKS.refused("read with a wrong STATE", x, () -> x.read(0, 0, 0, 3), -21);
        x.lay(0, 5, 0);
        x.lay(0, 6, -1);
        CHECKS.refused("read with a wrong TICK", x, () -> x.read(0, 0, 0, 3), -22);
        CHECKS.due("the first met is refused", x.read(0, 0, 38, 2), 0);
        CHECKS.due("a FAULT ahead", x.torn(), 2);
        x.sheet(0, 0, 7);
        x.lay(0, 3, 100);
        CHECKS.refused("refused ahead of the FAULT", x, () -> x.read(0, 0, 0, 3), -21);
        x.lay(0, 3, 10);
        CHECKS.due("whole ahead of the FAULT", x.read(0, 0, 0, 3), 2);
        CHECKS.due("they came", x.rule(1), 3);
        CHECKS.due("the last of them", x.press(2, 0), 10);
        KeySieves none = new KeySieves();
        none.sheet(2, 1, 3);
        CHECKS.refused("read without KEYS", none, () -> none.read(2, 1, 0, 1), -20);
    }

    private static void faulty(KeySieves x, int k, int lane, int f, int n, int came, int fault) {
        String call = "read(" + k + ", " + lane + ", " + f + ", " + n + ")";
        CHECKS.due(call, x.read(k, lane, f, n), came);
        CHECKS.due("torn() of " + call, x.torn(), fault);
        x.drop(0);
    }

    private static void readFaults() {
        KeySieves x = Checks.told("alike 0 1;");
        x.sheet(1, 1, 6);
        x.sheet(2, 2, 0);
        x.sheet(3, 0, 40);
        faulty(x, 0, 0, 0, 1, 0, 1);
        faulty(x, 0, 2, -5, 1, 0, 1);
        faulty(x, 1, 0, 0, 1, 0, 3);
        faulty(x, 1, 2, -1, 1, 0, 3);
        faulty(x, 1, 1, 0, 2, 2, 0);
        faulty(x, 1, 1, 0, 3, 2, 2);
        faulty(x, 1, 1, 1, 2, 1, 2);
        faulty(x, 1, 1, 4, 1, 0, 2);
        faulty(x, 1, 1, -1, 1, 0, 2);
        faulty(x, 1, 1, Integer.MAX_VALUE, 13, 0, 2);
        faulty(x, 1, 1, Integer.MAX_VALUE - 1, 13, 0, 2);
        faulty(x, 1, 1, Integer.MIN_VALUE, 13, 0, 2);
        faulty(x, 2, 2, 0, 1, 0, 2);
        faulty(x, 3, 0, 16, 8, 8, 0);
        faulty(x, 3, 0, 17, 8, 7, 2);
    }

    private static void readOfNoneHasNoFault() {
        KeySieves x = Checks.told("alike 0 1;press 3 0 1;");
        x.sheet(1, 1, 6);
        x.sheet(2, 2, 0);
        x.sheet(3, 0, 40);
        int[] from = {0, 5, 6, 40, -1, Integer.MAX_VALUE, Integer.MIN_VALUE};
        for (int k = 0; k < 4; k++) {
            for (int lane = 0; lane < 3; lane++) {
                for (int f : from) {
                    String call = "read(" + k + ", " + lane + ", " + f + ", 0)";
                    x.read(0, 0, 0, 1);
                    CHECKS.due("a FAULT ahead of " + call, x.torn(), 1);
                    CHECKS.due(call, x.read(k, lane, f, 0), 0);
                    CHECKS.due("torn() of " + call, x.torn(), 0);
                }
            }
        }
        CHECKS.due("no PRESS came", x.rule(1), 1);
        KeySieves none = new KeySieves();
        none.sheet(3, 0, 0);
        CHECKS.due("read of 0 without KEYS", none.read(3, 1, 0, 0), 0);
        CHECKS.due("its FAULT", none.torn(), 0);
        CHECKS.due("read of 1 without KEYS", none.read(3, 1, 0, 1), 0);
        CHECKS.due("its FAULT", none.torn(), 3);
    }

    private static void torn() {
        KeySieves x = Checks.told("alike 0 1;");
        x.sheet(0, 0, 3);
        x.read(0, 1, 0, 1);
        CHECKS.due("torn()", x.torn(), 3);
        CHECKS.due("torn() again", x.torn(), 3);
        CHECKS.due("a read that is BAD", x.read(0, 0, 0, 14), KeySieves.BAD);
        CHECKS.due("torn() behind a read that is BAD", x.torn(), 3);
        x.lay(0, 0, 100);
        CHECKS.due("a read that is refused", x.read(0, 0, 0, 1), -20);
        CHECKS.due("torn() behind a read that is refused", x.torn(), 3);
        x.lay(0, 0, 9);
        CHECKS.due("a read that is whole", x.read(0, 0, 0, 1), 1);
        CHECKS.due("torn() behind a read that is whole", x.torn(), 0);
        x.lay(0, 9, 9);
        CHECKS.due("lay() has nothing to do with it", x.torn(), 0);
    }

    private static void count() {
        KeySieves x = Checks.told("alike 1 2;both 9 7;shut 0 1;");
        CHECKS.due("BOUNCES of all", x.count(4), 10);
        CHECKS.due("NUMBERS of all", x.count(5), 10);
        x.alter(2, 0, 5);
        CHECKS.due("BOUNCES of all", x.count(4), 15);
        x.see(1, 0, 0);
        x.see(1, 0, 0);
        CHECKS.due("SEEN", x.count(0), 2);
        CHECKS.due("no IMAGES", x.count(1), 0);
        x.keep(1);
        CHECKS.due("an IMAGE", x.count(1), 1);
        x.keep(0);
        x.keep(0);
        CHECKS.due("two IMAGES", x.count(1), 2);
        x.feed(1);
        CHECKS.due("a byte on THE TAPE", x.count(2), 1);
        x.sheet(1, 0, 4);
        CHECKS.due("SHEET 0 is nothing", x.count(3), KeySieves.NONE);
        x.sheet(0, 0, 4);
        CHECKS.due("CELLS of SHEET 0", x.count(3), 4);
        CHECKS.refused("count(-1)", x, () -> x.count(-1), KeySieves.BAD);
        CHECKS.refused("count(6)", x, () -> x.count(6), KeySieves.BAD);
    }
}
