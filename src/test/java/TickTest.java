/** Promises 14 to 18: ticks, runs, ahead, when, due; and how sieves of each kind look. */
public final class TickTest {
    private static final Checks CHECKS = new Checks();

    public static void main(String[] args) {
        alike();
        scale();
        shut();
        both();
        lookedAtEverySoMany();
        ticks();
        runs();
        ahead();
        when();
        due();
        CHECKS.finish();
    }

    /** What a sieve says, its sum and its rest behind each tick. */
    private static void looks(String text, String says, String sums, String rests) {
        KeySieves x = Checks.told(text);
        int strokes = 0;
        for (int i = 0; i < says.length(); i++) {
            int before = x.key(0, 3);
            int struck = x.ticks(1);
            int due = says.charAt(i) - '0';
            String where = text + " behind tick " + i + ": ";
            CHECKS.due(where + "SAYS", x.key(0, 3), due);
            CHECKS.due(where + "SUM", x.key(0, 4), sums.charAt(i) - '0');
            CHECKS.due(where + "REST", x.key(0, 5), rests.charAt(i) - '0');
            CHECKS.due(where + "STROKES in it", struck, before == 0 && due == 1 ? 1 : 0);
            strokes += struck;
            CHECKS.due(where + "STROKES", x.key(0, 6), strokes);
            CHECKS.due(where + "STROKES of all", x.rule(6), strokes);
            CHECKS.due(where + "TICK", x.rule(2), i + 1);
        }
    }

    private static void alike() {
        looks("alike 0 3;press 1 0 1;press 6 0 0;", "00011111000", "01200012000", "00000000000");
        looks("alike 4 2;press 0 0 1;", "00000111", "10101000", "00000000");
        looks("alike 3 1;press 0 0 1;", "10111", "00000", "00000");
    }

    private static void scale() {
        looks("scale 0 3;press 1 0 1;press 6 0 0;", "000111110000", "012333210000", "000000000000");
        looks("scale 4 2;press 0 0 1;", "0000011", "1010122", "0000000");
        looks("scale 2 3;press 0 0 1;press 5 0 0;press 7 0 1;", "0000111111", "1012323323", "0000000000");
    }

    private static void shut() {
        looks("shut 4 3;press 0 0 1;press 5 0 0;", "111110000000", "000000000000", "321003210000");
        looks("shut 4 1;press 0 0 1;", "11100111", "00000000", "10010100");
    }

    private static void both() {
        looks("both 4 2;press 0 0 1;press 6 0 0;", "0000011111100", "1010100010100", "0000021000021");
        looks("both 0 1;press 1 0 1;press 2 0 0;", "01100", "00000", "01010");
    }

    private static void lookedAtEverySoMany() {
        looks("alike 0 2;press 1 0 1;every 3;", "00000011", "00011100", "00000000");
        looks("shut 0 1;press 1 0 1;press 5 0 0;every 4;", "0000111111110000", "0000000000000000", "0000111100001111");
    }

    private static void ticks() {
        KeySieves x = Checks.told("alike 0 1;shut 0 1;scale 0 1;press 0 0 1;press 1 1 1;press 2 1 0;press 50 1 1;");
        CHECKS.due("ticks(0)", x.ticks(0), 0);
        CHECKS.due("ticks(100)", x.ticks(100), 3);
        for (int i = 0; i < 8; i++) {
            CHECKS.due("ticks(100)", x.ticks(100), 0);
        }
        CHECKS.due("ticks(98)", x.ticks(98), 0);
        CHECKS.refused("ticks(2) at 998", x, () -> x.ticks(2), KeySieves.FULL);
        CHECKS.due("ticks(1) at 998", x.ticks(1), 0);
        CHECKS.refused("ticks(1) at 999", x, () -> x.ticks(1), KeySieves.FULL);
        CHECKS.due("ticks(0) at 999", x.ticks(0), 0);
        CHECKS.due("TICK", x.rule(2), 999);
        CHECKS.due("runs beyond 999", x.runs(200, 1), 3);
        KeySieves none = new KeySieves();
        CHECKS.due("ticks without KEYS", none.ticks(100), 0);
        CHECKS.due("TICK without KEYS", none.rule(2), 100);
    }

    private static void runs() {
        KeySieves x = Checks.told("alike 0 1;shut 3 2;press 1 0 1;press 1 1 1;press 3 0 0;press 9 0 1;");
        CHECKS.due("STROKES", x.runs(200, 0), 3);
        CHECKS.due("STROKES of 9", x.runs(9, 0), 2);
        CHECKS.due("STROKES of 0", x.runs(0, 0), 0);
        CHECKS.due("SAY 1", x.runs(200, 1), 3);
        CHECKS.due("SAY 1 behind 4", x.runs(4, 1), 2);
        CHECKS.due("SAY 1 behind 0", x.runs(0, 1), 0);
        CHECKS.due("changes", x.runs(200, 2), 4);
        CHECKS.due("wrong", x.runs(200, 3), 1);
        CHECKS.due("wrong in 2", x.runs(2, 3), 0);
        x.every(4);
        CHECKS.due("wrong, looked at every 4 ticks", x.runs(12, 3), 6);
        CHECKS.refused("runs(200, 0)", x, () -> x.runs(200, 0), 2);
        x.ticks(5);
        CHECKS.due("STROKES from now on", x.runs(200, 0), 1);
        CHECKS.due("runs without KEYS", new KeySieves().runs(200, 3), 0);
    }

    private static void ahead() {
        KeySieves x = Checks.told("alike 0 2;alike 0 1;press 1 0 1;press 4 0 0;press 9 0 1;press 3 1 1;");
        CHECKS.due("SAYS behind 2", x.ahead(0, 2, 0), 0);
        CHECKS.due("SAYS behind 3", x.ahead(0, 3, 0), 1);
        CHECKS.due("SAYS behind 6", x.ahead(0, 6, 0), 0);
        CHECKS.due("SAYS behind 200", x.ahead(0, 200, 0), 1);
        CHECKS.due("STROKES in 0", x.ahead(0, 0, 1), 0);
        CHECKS.due("STROKES in 6", x.ahead(0, 6, 1), 1);
        CHECKS.due("STROKES in 200", x.ahead(0, 200, 1), 2);
        CHECKS.due("STROKES of the other", x.ahead(1, 200, 1), 1);
        CHECKS.refused("ahead(0, 200, 1)", x, () -> x.ahead(0, 200, 1), 2);
        x.ticks(5);
        CHECKS.due("STROKES from now on", x.ahead(0, 200, 1), 1);
    }

    private static void when() {
        KeySieves x = Checks.told("alike 0 2;shut 0 1;alike 0 1;press 1 0 1;press 4 0 0;press 99 2 1;");
        CHECKS.due("when(0, 0)", x.when(0, 0), 0);
        CHECKS.due("when(0, 1)", x.when(0, 1), 3);
        CHECKS.due("when(1, 1)", x.when(1, 1), KeySieves.NONE);
        CHECKS.due("when(2, 1)", x.when(2, 1), 100);
        CHECKS.refused("when(2, 1)", x, () -> x.when(2, 1), 100);
        x.ticks(4);
        CHECKS.due("when(0, 1) that it SAYS", x.when(0, 1), 0);
        CHECKS.due("when(0, 0) from now on", x.when(0, 0), 2);
        KeySieves slow = Checks.told("scale 0 9;press 99 0 1;every 4;");
        CHECKS.due("behind 133", slow.when(0, 1), 133);
        slow.alter(0, 2, 1);
        slow.drop(0);
        slow.strike(0, 0, 1);
        slow.ticks(1);
        slow.drop(0);
        slow.every(4);
        CHECKS.due("when(0, 0) of a scale let go", slow.when(0, 0), 4);
    }

    private static void due() {
        KeySieves x = Checks.told("alike 0 1;alike 0 1;press 0 0 1;press 5 1 1;press 5 0 1;press 6 0 0;press 99 1 1;");
        int[][] due = {{0, 0}, {1, 1}, {5, 1}, {6, 3}, {7, 3}, {99, 3}, {100, 4}, {200, 4}};
        for (int[] d : due) {
            CHECKS.due("due(" + d[0] + ")", x.due(d[0]), d[1]);
        }
        CHECKS.refused("due(-1)", x, () -> x.due(-1), KeySieves.BAD);
        CHECKS.refused("due(201)", x, () -> x.due(201), KeySieves.BAD);
        x.ticks(1);
        CHECKS.due("due(200) at 1", x.due(200), 3);
        x.ticks(4);
        CHECKS.due("due(1) at 5", x.due(1), 2);
        CHECKS.due("due(94) at 5", x.due(94), 2);
        CHECKS.due("due(95) at 5", x.due(95), 3);
    }
}
