/** Promises 1 to 9: a new object, the tape, the text, what is told of keys and presses. */
public final class TextTest {
    private static final Checks CHECKS = new Checks();
    private static final String FOUR_KEYS = "alike 0 1;scale 0 1;shut 0 1;both 0 1;";

    public static void main(String[] args) {
        newObject();
        feed();
        end();
        textsTaken();
        tokenFaults();
        placeFaults();
        boundFaults();
        otherFaults();
        refusedTextChangesTapeAlone();
        takenTextReplacesAll();
        newKeysAreAsNew();
        rule();
        key();
        press();
        contact();
        CHECKS.finish();
    }

    private static void newObject() {
        KeySieves x = new KeySieves();
        for (int what = 0; what <= 6; what++) {
            CHECKS.due("new rule(" + what + ")", x.rule(what), what == 3 ? 1 : 0);
        }
        for (int what = 0; what <= 5; what++) {
            CHECKS.due("new count(" + what + ")", x.count(what), what == 3 ? KeySieves.NONE : 0);
        }
        for (int k = 0; k < 4; k++) {
            CHECKS.due("new lay", x.lay(k, 0, 1), -11);
        }
        CHECKS.due("new fault()", x.fault(), 0);
        CHECKS.due("new torn()", x.torn(), 0);
        CHECKS.due("new key(0, 0)", x.key(0, 0), KeySieves.BAD);
        CHECKS.due("new press(0, 0)", x.press(0, 0), KeySieves.BAD);
        CHECKS.due("new back(0)", x.back(0), KeySieves.STATE);
        CHECKS.due("new back(1)", x.back(1), KeySieves.STATE);
    }

    private static void feed() {
        KeySieves x = new KeySieves();
        CHECKS.refused("feed(-1)", x, () -> x.feed(-1), KeySieves.BAD);
        CHECKS.refused("feed(128)", x, () -> x.feed(128), KeySieves.BAD);
        CHECKS.due("feed(0)", x.feed(0), 1);
        CHECKS.due("feed(127)", x.feed(127), 2);
        for (int n = 3; n <= 160; n++) {
            CHECKS.due("feed the byte " + n, x.feed(32), n);
        }
        CHECKS.refused("feed the byte 161", x, () -> x.feed(32), KeySieves.FULL);
        CHECKS.refused("feed(128) on a full tape", x, () -> x.feed(128), KeySieves.BAD);
        CHECKS.due("count(2)", x.count(2), 160);
    }

    private static void end() {
        KeySieves x = new KeySieves();
        Checks.feed(x, "alike 0 1;$$$");
        CHECKS.refused("end(-1)", x, () -> x.end(-1), KeySieves.BAD);
        CHECKS.refused("end(14)", x, () -> x.end(14), KeySieves.BAD);
        CHECKS.due("end(13)", x.end(13), 13);
        CHECKS.due("end(10)", x.end(10), 13);
        CHECKS.refused("end(13) again", x, () -> x.end(13), KeySieves.BAD);
        CHECKS.due("feed behind the end", x.feed(' '), 11);
        CHECKS.due("text() of what is kept", x.text(), 1);
        CHECKS.due("end(0) of an empty tape", x.end(0), 0);
        CHECKS.due("end(1) of an empty tape", x.end(1), KeySieves.BAD);
    }

    private static void told(String text, int answer, int fault) {
        KeySieves x = new KeySieves();
        CHECKS.due("text() of '" + text + "'", Checks.tell(x, text), answer);
        CHECKS.due("fault() of '" + text + "'", x.fault(), fault);
        CHECKS.due("bytes left of '" + text + "'", x.count(2), 0);
    }

    private static void textsTaken() {
        told("", 0, 0);
        told("    ", 0, 0);
        told("alike 0 1;", 1, 0);
        told("alike0 1;", 1, 0);
        told("  alike   09  01  ;  ", 1, 0);
        told("alike 9 9;scale 9 9;shut 9 9;both 9 9;every 4;", 5, 0);
        told("every 1;", 1, 0);
        told("zzz;", -10, 2);
        told("press 1 0 1;shut 0 1;", 2, 0);
        told(FOUR_KEYS + "press 99 3 1;press 0 0 0;", 6, 0);
        told("press 1 0 1;".repeat(8) + "both 0 1;every 3;", 10, 0);
    }

    private static void tokenFaults() {
        told("A", -10, 1);
        told("alike 0 1;$", -20, 1);
        told("alike 0 1 $", -20, 1);
        told("alike 0-1", -17, 1);
        told("alike\t0 1;", -15, 1);
        told("alike 0 1;\n", -20, 1);
        told("alike 0 1;\0", -20, 1);
        told("`", -10, 1);
        told("{", -10, 1);
        told("/", -10, 1);
        told(":", -10, 1);
        told("alike 0 123;", -18, 1);
        told("alike 000 1;", -16, 1);
        told("alike 0 1 123;", -20, 1);
        told("12345678901234567890", -10, 1);
        told("alike 10 $", -16, 3);
        told("alike $ 10", -16, 1);
        told("alike ; $", -16, 2);
        told("alikeA", -15, 1);
        told("aliketA", -10, 2);
    }

    private static void placeFaults() {
        told("alikes 0 1;", -10, 2);
        told("alik 0 1;", -10, 2);
        told("a", -10, 2);
        told("alike 0 1;shot 0 1;", -20, 2);
        told("alikf 0 1;", -10, 2);
        told(" ;", -11, 2);
        told("alike 0 1;;", -20, 2);
        told("5", -10, 2);
        told("alike", -15, 2);
        told("alike  ", -17, 2);
        told("alike 0", -17, 2);
        told("alike 0 1", -19, 2);
        told("alike 0 1 alike 0 1;", -20, 2);
        told("alike 0 1 2;", -20, 2);
        told("alike ;", -16, 2);
        told("alike x", -16, 2);
        told("press 0 0;", -19, 2);
        told("every ;", -16, 2);
        told("every 1 1;", -18, 2);
    }

    private static void boundFaults() {
        told("alike 10 1;", -16, 3);
        told("scale 0 0;", -18, 3);
        told("shut 0 10;", -17, 3);
        told("both 99 1;", -15, 3);
        told("every 0;", -16, 3);
        told("every 5;", -16, 3);
        told("press 0 4 0;", -18, 3);
        told("press 0 0 2;", -20, 3);
    }

    private static void otherFaults() {
        told("every 1;every 2;", -18, 4);
        told("every 1;every", -18, 4);
        told("every 1;every $", -18, 4);
        told("every 1; every 9;", -19, 4);
        told(FOUR_KEYS + "alike 0 1;", -48, 5);
        told(FOUR_KEYS + "both $", -48, 5);
        told(FOUR_KEYS + " scale", -49, 5);
        told("press 1 0 1;".repeat(9), -106, 5);
        told("press 1 0 1;".repeat(8) + "press", -106, 5);
        told("press 1 0 1;", -22, 6);
        told("press 1 0 1;  ", -24, 6);
        told("press 1 1 1;alike 0 1;", -32, 6);
        told("press 1 3 1;alike 0 1;shut 0 1;both 0 1;", -50, 6);
        told("press 1 0 1;alike 0 1", -31, 2);
    }

    private static void refusedTextChangesTapeAlone() {
        KeySieves x = Checks.told("scale 2 3;press 1 0 1;every 2;");
        x.ticks(20);
        x.see(3, 0, 1);
        x.keep(1);
        String before = Checks.all(x);
        Checks.feed(x, "shut 1 1;press 2 2 1;");
        CHECKS.due("text() with a key that is not", x.text(), -31);
        CHECKS.due("fault()", x.fault(), 6);
        CHECKS.same("after a refused text", Checks.all(x).replace("fault 6", "fault 0"), before);
        CHECKS.due("back(1) after a refused text", x.back(1), 20);
        CHECKS.due("text() of nothing left", x.text(), 0);
        CHECKS.due("fault() of the latest text()", x.fault(), 0);
    }

    private static void takenTextReplacesAll() {
        KeySieves x = Checks.told("alike 1 1;press 1 0 1;every 2;");
        x.sheet(0, 0, 7);
        x.read(0, 1, 0, 1);
        x.ticks(9);
        x.see(3, 0, 1);
        x.keep(0);
        x.keep(1);
        x.runs(60, 0);
        CHECKS.due("text()", Checks.tell(x, "shut 4 5;both 6 7;"), 2);
        CHECKS.same("after a text", Checks.all(x), "fault 0 torn 3 rule 2 0 0 1 0 0 0 count 0 0 0 7 10 12"
            + " key 4 2 5 0 0 0 0 fit 15 1022 1023 key 6 3 7 0 0 0 0 fit 15 1022 1023");
        CHECKS.due("back(0)", x.back(0), KeySieves.STATE);
        CHECKS.due("back(1)", x.back(1), KeySieves.STATE);
    }

    private static void newKeysAreAsNew() {
        KeySieves x = Checks.told("both 0 2;scale 0 9;every 2;press 0 0 1;press 0 1 1;");
        x.see(1, 0, 1);
        x.ahead(0, 3, 0);
        CHECKS.due("text() once more", Checks.tell(x, "alike 0 2;scale 0 2;every 3;"), 3);
        CHECKS.same("new KEYS", Checks.all(x), "fault 0 torn 0 rule 2 0 0 3 0 0 0 count 0 0 0 -4 0 4"
            + " key 0 0 2 0 0 0 0 fit 15 1022 1023 key 0 1 2 0 0 0 0 fit 15 1022 1023");
    }

    private static void rule() {
        KeySieves x = Checks.told("alike 0 1;scale 0 2;shut 0 1;press 1 0 1;press 1 2 1;press 3 2 0;press 3 1 1;every 2;");
        x.ticks(3);
        int[] due = {3, 4, 3, 2, 5, 3, 2};
        for (int what = 0; what < due.length; what++) {
            CHECKS.due("rule(" + what + ")", x.rule(what), due[what]);
        }
        CHECKS.refused("rule(-1)", x, () -> x.rule(-1), KeySieves.BAD);
        CHECKS.refused("rule(7)", x, () -> x.rule(7), KeySieves.BAD);
    }

    private static void key() {
        KeySieves x = Checks.told("both 7 3;scale 2 4;press 0 0 1;press 0 1 1;");
        x.alter(0, 0, 0);
        x.ticks(5);
        int[] both = {0, 3, 3, 1, 0, 1, 1};
        int[] scale = {2, 1, 4, 0, 3, 0, 0};
        for (int what = 0; what < 7; what++) {
            CHECKS.due("key(0, " + what + ")", x.key(0, what), both[what]);
            CHECKS.due("key(1, " + what + ")", x.key(1, what), scale[what]);
        }
        CHECKS.refused("key(2, 0)", x, () -> x.key(2, 0), KeySieves.BAD);
        CHECKS.refused("key(-1, 0)", x, () -> x.key(-1, 0), KeySieves.BAD);
        CHECKS.refused("key(0, 7)", x, () -> x.key(0, 7), KeySieves.BAD);
        CHECKS.refused("key(0, -1)", x, () -> x.key(0, -1), KeySieves.BAD);
    }

    private static void press() {
        KeySieves x = Checks.told("alike 0 1;shut 0 1;press 99 1 1;press 5 0 0;");
        int[][] due = {{99, 1, 1}, {5, 0, 0}};
        for (int i = 0; i < 2; i++) {
            for (int what = 0; what < 3; what++) {
                CHECKS.due("press(" + i + ", " + what + ")", x.press(i, what), due[i][what]);
            }
        }
        CHECKS.refused("press(2, 0)", x, () -> x.press(2, 0), KeySieves.BAD);
        CHECKS.refused("press(-1, 0)", x, () -> x.press(-1, 0), KeySieves.BAD);
        CHECKS.refused("press(0, 3)", x, () -> x.press(0, 3), KeySieves.BAD);
        CHECKS.refused("press(0, -1)", x, () -> x.press(0, -1), KeySieves.BAD);
        x.drop(1);
        CHECKS.due("press(1, 0) that was dropped", x.press(1, 0), KeySieves.BAD);
    }

    private static void contacts(KeySieves x, int k, int from, String due) {
        for (int i = 0; i < due.length(); i++) {
            CHECKS.due("contact(" + k + ", " + (from + i) + ")", x.contact(k, from + i), due.charAt(i) - '0');
        }
    }

    private static void contact() {
        KeySieves x = Checks.told("alike 3 1;shut 0 1;both 9 2;scale 4 2;press 5 0 1;press 2 1 1;press 3 2 1;press 1 3 1;press 3 3 0;");
        contacts(x, 0, 3, "001011111");
        contacts(x, 1, 0, "001111111");
        contacts(x, 2, 2, "01010101011111");
        contacts(x, 3, 0, "010010100");
        CHECKS.due("contact(0, 999)", x.contact(0, 999), 1);
        KeySieves sameTick = Checks.told("alike 2 1;press 5 0 1;press 5 0 0;press 3 0 1;");
        contacts(sameTick, 0, 2, "01001000");
        KeySieves outOfOrder = Checks.told("alike 0 1;press 9 0 0;press 5 0 1;");
        contacts(outOfOrder, 0, 4, "0111100");
    }
}
