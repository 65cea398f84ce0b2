/** The boundaries that promises 1 to 5 name: a new object, feed, end, text, fault. */
public final class EdgeTapeTest {
    private static final Checks CHECKS = new Checks();
    private static final String[] KINDS = {"alike", "scale", "shut", "both"};
    /** 38 letters. */
    private static final String FOUR_KEYS = "alike 0 1;scale 0 1;shut 0 1;both 0 1;";
    /** 12 letters. */
    private static final String PRESS = "press 1 0 1;";

    public static void main(String[] args) {
        p1NoKeysNoPresses();
        p1SheetsOfNothing();
        p1AtFirst();
        p1The512thCall();
        p2ByteFrom0To127();
        p2FullBeyond160();
        p2HowManyItHas();
        p3FirstBytes();
        p3EmptyAndFullTape();
        p4EmptyTape();
        p4FullTape();
        p4EveryByte();
        p4NumbersOfOneOrTwoFigures();
        p4TokensAsLongAsMayBe();
        p4NamesThatBeginNoLine();
        p4TokensThatCanNotStandThere();
        p4TheEndWithinALine();
        p4BoundsOfKeys();
        p4BoundsOfPresses();
        p4BoundsOfEvery();
        p4EverySecondTime();
        p4FifthKey();
        p4NinthPress();
        p4KeyThatThereIsNot();
        p4TheFirstFaultMet();
        p4TakenTextTellsAll();
        p4ThatWhichWasToldStays();
        p5FaultOfTheLatestText();
        CHECKS.finish();
    }

    private static Edge edge(int promise, String sentence) {
        return new Edge(CHECKS, promise, sentence);
    }

    private static void p1NoKeysNoPresses() {
        edge(1, "no KEYS, no PRESSES").on()
            .asked("rule(0) = 0").asked("rule(1) = 0")
            .refused("key(0, 0) = BAD").refused("press(0, 0) = BAD").refused("contact(0, 0) = BAD")
            .refused("alter(0, 0, 0) = BAD").refused("strike(0, 0, 1) = BAD").refused("see(0, 0, 0) = BAD")
            .refused("drift(7, 1, 0) = STATE");
    }

    private static void p1SheetsOfNothing() {
        Edge e = edge(1, "SHEETS of nothing").on().refused("count(3) = NONE");
        for (int k = 0; k < 4; k++) {
            e.refused("lay(" + k + ", 0, 0) = -11");
            e.taken("read(" + k + ", 0, 0, 1) = 0", "torn() = 1");
        }
    }

    private static void p1AtFirst() {
        edge(1, "EVERY 1, TICK 0 at first; THE TAPE, IMAGES, what is SEEN empty").on()
            .asked("rule(2) = 0").asked("rule(3) = 1").asked("rule(4) = 0").asked("rule(5) = 0").asked("rule(6) = 0")
            .asked("count(0) = 0").asked("count(1) = 0").asked("count(2) = 0").asked("fault() = 0").asked("torn() = 0")
            .refused("back(0) = STATE").refused("back(1) = STATE");
    }

    private static void p1The512thCall() {
        edge(1, "an object is used for at most 512 calls").on("ticks(1) * 511").taken("rule(2) = 511")
            .on("feed(32) * 160", "feed(32) * 350").taken("end(0) = 160", "count(2) = 0")
            .on("tell 'alike 0 1;'", "strike(3, 0, 1) * 500").taken("strike(3, 0, 1) = FULL");
    }

    private static void p2ByteFrom0To127() {
        edge(2, "a byte (0 to 127)").takesWithin("feed(#)", 0, 10, 127, 10)
            .on().takesWithin("feed(#)", 0, 1, 127, 1);
    }

    private static void p2FullBeyond160() {
        edge(2, "FULL: more than 160").on("feed(32) * 159").taken("feed(32) = 160", "count(2) = 160")
            .on("feed(32) * 160").refused("feed(32) = FULL").refused("feed(0) = FULL").refused("feed(127) = FULL")
            .refused("feed(-1) = BAD").refused("feed(128) = BAD")
            .taken("end(159) = 160", "feed(32) = 160", "feed(32) = FULL")
            .onRich("feed(32) * 151").refused("feed(32) = FULL");
    }

    private static void p2HowManyItHas() {
        edge(2, "behind THE TAPE: how many it has").on("feed 'alike 0 1;'", "text()").taken("feed(97) = 1")
            .on("feed '$$'", "text()").taken("feed(97) = 1")
            .on("feed 'alike 0 1;$'", "end(10)").taken("feed(32) = 11", "text() = 1");
    }

    private static void p3FirstBytes() {
        edge(3, "THE TAPE keeps its first n bytes").takesWithin("end(#)", 0, 9, 9, 9)
            .taken("end(8) = 9", "count(2) = 8", "text() = -18", "fault() = 2")
            .taken("end(9) = 9", "count(2) = 9", "text() = 1")
            .taken("end(0) = 9", "count(2) = 0", "text() = 0")
            .taken("end(3) = 9", "end(4) = BAD", "end(3) = 3");
    }

    private static void p3EmptyAndFullTape() {
        edge(3, "of an empty THE TAPE, of a full one").on().takesWithin("end(#)", 0, 0, 0, 0)
            .on("feed(32) * 160").takesWithin("end(#)", 0, 160, 160, 160)
            .taken("end(160) = 160", "feed(32) = FULL");
    }

    private static void p4EmptyTape() {
        edge(4, "THE TAPE is empty").tells("", 0, 0).tells(" ", 0, 0)
            .onRich("end(0)").taken("text() = 0", "rule(0) = 0", "rule(1) = 0", "rule(2) = 0", "rule(3) = 1", "count(0) = 0",
                "count(1) = 0", "key(0, 0) = BAD", "press(0, 0) = BAD", "back(0) = STATE", "count(3) = 7", "torn() = 3");
    }

    private static String padded(String text, int length) {
        return text + " ".repeat(length - text.length());
    }

    private static void p4FullTape() {
        String most = FOUR_KEYS + "press 99 3 1;".repeat(8) + "every 4;";
        edge(4, "THE TAPE is full").on().tells(most, 13, 0).tells(padded(most, 160), 13, 0)
            .tells(padded(most, 159) + "$", -169, 1).tells(padded(most, 159) + ";", -169, 2)
            .tells(padded(most, 159) + "a", -169, 2).tells(padded("alike", 160), -170, 2)
            .tells(padded(PRESS, 160), -170, 6).tells(" ".repeat(160), 0, 0)
            .tells("7".repeat(160), -10, 1).tells("a".repeat(160), -10, 2)
            .tells(" ".repeat(150) + "alike 0 1;", 1, 0).tells(" ".repeat(151) + "alike 0 1", -170, 2);
    }

    private static void p4EveryByte() {
        Edge e = edge(4, "FAULT 1 no TOKEN: NAMES (a .. z), NUMBERS, one ;, blanks (32) between").on();
        for (char c = 0; c <= 127; c++) {
            boolean begins = c >= 'a' && c <= 'z' || c >= '0' && c <= '9' || c == ';';
            if (c == ' ') {
                e.tells(" ", 0, 0);
                e.tells("alike 0 1; ", 1, 0);
            } else {
                e.tells("" + c, -10, begins ? 2 : 1);
                e.tells("alike 0 1;" + c, -20, begins ? 2 : 1);
                e.tells("alike 0 1  " + c, c == ';' ? 1 : -21, c == ';' ? 0 : begins ? 2 : 1);
            }
        }
    }

    private static void p4NumbersOfOneOrTwoFigures() {
        edge(4, "FAULT 1 a NUMBER that is too long (its first byte)").tells("alike 0 1;", 1, 0)
            .tells("alike 00 09;", 1, 0).tells("alike 000 1;", -16, 1).tells("alike 0 001;", -18, 1)
            .tells("alike 0 1;press 99 0 1;", 2, 0).tells("alike 0 1;press 100 0 1;", -26, 1)
            .tells("every 04;", 1, 0).tells("every 004;", -16, 1).tells("  123", -12, 1).tells("  12", -12, 2)
            .tells("alike 0 1 12", -20, 2).tells("alike 0 1 123", -20, 1);
    }

    private static void p4TokensAsLongAsMayBe() {
        edge(4, "TOKENS, each as long as may be").tells("alike0 1;", 1, 0).tells("alike 01;", -18, 2)
            .tells("alike 0 1every 1;", -19, 2).tells("alike 0 1;every1;", 2, 0).tells("alikeshut 0 1;", -10, 2)
            .tells("alike 0 1;;", -20, 2).tells("alike 0 1 ;", 1, 0).tells("ali ke 0 1;", -10, 2);
    }

    private static void p4NamesThatBeginNoLine() {
        Edge e = edge(4, "FAULT 2 a NAME that begins no line").on();
        String[] numbers = {" 0 1;", " 0 1;", " 0 1;", " 0 1;", " 1 0 1;", " 1;"};
        String[] names = {"alike", "scale", "shut", "both", "press", "every"};
        for (int i = 0; i < names.length; i++) {
            String shorter = names[i].substring(0, names[i].length() - 1);
            e.tells("alike 0 1;" + names[i] + numbers[i], 2, 0);
            e.tells("alike 0 1;" + names[i] + "s" + numbers[i], -20, 2);
            e.tells("alike 0 1;" + shorter + numbers[i], -20, 2);
            e.tells("alike 0 1;" + shorter + "x" + numbers[i], -20, 2);
            e.tells("alike 0 1;x" + names[i].substring(1) + numbers[i], -20, 2);
        }
    }

    private static void p4TokensThatCanNotStandThere() {
        edge(4, "FAULT 2 a TOKEN that can not stand there").tells("5", -10, 2).tells(";", -10, 2).tells("alike x 1;", -16, 2)
            .tells("alike ; 1;", -16, 2).tells("alike 0 x;", -18, 2).tells("alike 0 ;", -18, 2).tells("alike 0 1 x", -20, 2)
            .tells("alike 0 1 1;", -20, 2).tells("press alike 0 1;", -16, 2).tells("press 1 alike 1;", -18, 2)
            .tells("press 1 0 alike;", -20, 2).tells("press 1 0;", -19, 2).tells("press 1 0 1 1;", -22, 2)
            .tells("every every;", -16, 2).tells("every ;", -16, 2).tells("every 1 1;", -18, 2).tells("alike 0 1;5", -20, 2);
    }

    private static void p4TheEndWithinALine() {
        Edge e = edge(4, "FAULT 2 the end: the length").on();
        String[] lines = {"alike 0 1;", "scale 9 9;", "shut 10 1;", "both 0 1;", "press 12 0 1;", "every 2;"};
        for (String line : lines) {
            int name = line.indexOf(' ');
            int bounds = line.indexOf("10 ");
            for (int n = 1; n < line.length(); n++) {
                if (bounds >= 0 && n >= bounds + 2) {
                    e.tells(line.substring(0, n), -10 - bounds, 3);
                } else {
                    e.tells(line.substring(0, n), n < name ? -10 : -10 - n, 2);
                }
            }
        }
    }

    private static void p4BoundsOfKeys() {
        Edge e = edge(4, "FAULT 3 BOUNCE (0 to 9), NUMBER (1 to 9)");
        for (int kind = 0; kind < KINDS.length; kind++) {
            String name = KINDS[kind];
            int at = -10 - name.length();
            e.tells(name + " 0 1;", 1, 0).tells(name + " 9 9;", 1, 0);
            e.tells(name + " 10 1;", at - 1, 3).tells(name + " 99 1;", at - 1, 3);
            e.tells(name + " 0 0;", at - 3, 3).tells(name + " 0 10;", at - 3, 3).tells(name + " 0 99;", at - 3, 3);
            e.on("tell '" + name + " 0 1;'").asked("key(0, 0) = 0").asked("key(0, 1) = " + kind).asked("key(0, 2) = 1");
            e.on("tell '" + name + " 9 9;'").asked("key(0, 0) = 9").asked("key(0, 1) = " + kind).asked("key(0, 2) = 9");
            e.onRich();
        }
    }

    private static void p4BoundsOfPresses() {
        edge(4, "FAULT 3 a PRESS: TICK (0 to 99), KEY (0 to 3), STATE 1 or 0").tells(FOUR_KEYS + "press 0 0 0;", 5, 0)
            .tells(FOUR_KEYS + "press 99 3 1;", 5, 0).tells(FOUR_KEYS + "press 0 4 0;", -56, 3)
            .tells(FOUR_KEYS + "press 0 99 0;", -56, 3).tells(FOUR_KEYS + "press 0 0 2;", -58, 3)
            .tells(FOUR_KEYS + "press 0 0 99;", -58, 3)
            .on("tell '" + FOUR_KEYS + "press 99 3 1;press 0 0 0;'").asked("press(0, 0) = 99").asked("press(0, 1) = 3")
            .asked("press(0, 2) = 1").asked("press(1, 0) = 0").asked("press(1, 1) = 0").asked("press(1, 2) = 0");
    }

    private static void p4BoundsOfEvery() {
        edge(4, "FAULT 3 EVERY (1 to 4)").tells("every 1;", 1, 0).tells("every 4;", 1, 0).tells("every 0;", -16, 3)
            .tells("every 5;", -16, 3).tells("every 99;", -16, 3)
            .on("tell 'every 4;'").asked("rule(3) = 4").on("every(3)", "tell 'every 1;'").asked("rule(3) = 1")
            .on("every(3)", "tell 'alike 0 1;'").asked("rule(3) = 1");
    }

    private static void p4EverySecondTime() {
        edge(4, "FAULT 4 every for the second time (its NAME)").tells("every 2;", 1, 0).tells("every 2;every 2;", -18, 4)
            .tells("every 2; alike 0 1;  every", -31, 4).tells("every 2;every $", -18, 4).tells("every 2;every 9;", -18, 4)
            .on("tell 'every 2;'").tells("every 3;", 1, 0)
            .on("feed 'every 2;every 3;'", "text()").tells("every 3;", 1, 0);
    }

    private static void p4FifthKey() {
        Edge e = edge(4, "FAULT 5 the 5th KEY (its NAME)").tells(FOUR_KEYS, 4, 0);
        for (String name : KINDS) {
            e.tells(FOUR_KEYS + name + " 0 1;", -48, 5).tells(FOUR_KEYS + " " + name + " 10", -49, 5);
            e.tells(FOUR_KEYS + name + "$", -48, 5).tells(FOUR_KEYS + name, -48, 5);
        }
        e.on("tell '" + FOUR_KEYS + "'").tells(FOUR_KEYS, 4, 0);
    }

    private static void p4NinthPress() {
        String eight = "alike 0 1;" + PRESS.repeat(8);
        edge(4, "FAULT 5 the 9th press (its NAME)").tells(eight, 9, 0).tells(eight + PRESS, -116, 5)
            .tells(eight + "press", -116, 5).tells(eight + " press $", -117, 5).tells(eight + "press 100", -116, 5)
            .tells(PRESS.repeat(9), -106, 5).on("tell '" + eight + "'").tells(eight, 9, 0);
    }

    private static void p4KeyThatThereIsNot() {
        edge(4, "FAULT 6 behind all (the length): a KEY that there is not").tells(PRESS, -22, 6)
            .tells(PRESS + "  ", -24, 6).tells(PRESS + "alike 0 1;", 2, 0).tells("press 1 1 1;alike 0 1;", -32, 6)
            .tells("press 1 1 1;alike 0 1;both 0 1;", 3, 0).tells("press 1 3 1;" + FOUR_KEYS, 5, 0)
            .tells("press 1 3 1;" + FOUR_KEYS.substring(0, 29), -51, 6).tells(PRESS + "$", -22, 1)
            .tells(PRESS + "a", -22, 2).tells(PRESS + "every 5;", -28, 3).tells(PRESS + "every 4;", -30, 6)
            .on("tell '" + FOUR_KEYS + "'").tells("press 1 3 1;", -22, 6);
    }

    private static void p4TheFirstFaultMet() {
        edge(4, "FAULTS, the first met as it is read").tells("alike 10 $", -16, 3).tells("alike $ 10", -16, 1)
            .tells("alike ; $", -16, 2).tells("alike 0 0 $", -18, 3).tells("alike 0 $ 0", -18, 1)
            .tells("press 0 4 2;", -18, 3).tells("press 0 0 2 $", -20, 3).tells("x $", -10, 2).tells("$ x", -10, 1)
            .tells("alike 123 10", -16, 1).tells("alike 10 123", -16, 3);
    }

    private static void p4TakenTextTellsAll() {
        edge(4, "a text that is taken tells all; nothing is SEEN; IMAGES are gone")
            .taken("text() = 1", "fault() = 0", "rule(0) = 1", "rule(1) = 0", "rule(2) = 0", "rule(3) = 1", "rule(4) = 0",
                "rule(6) = 0", "key(0, 0) = 3", "key(0, 1) = 2", "key(0, 2) = 4", "key(0, 3) = 0", "key(0, 4) = 0",
                "key(0, 5) = 0", "key(0, 6) = 0", "key(1, 0) = BAD", "press(0, 0) = BAD", "count(0) = 0", "count(1) = 0",
                "count(2) = 0", "back(0) = STATE", "back(1) = STATE", "count(3) = 7", "torn() = 3", "keep(0) = 0")
            // KEY 1 had a REST and a STROKE, KEY 0 a SUM.
            .onRich("runs(0, 0)", "end(0)", "feed 'shut 3 4;both 5 6;press 7 1 1;every 3;'").taken("text() = 4", "rule(0) = 2", "rule(1) = 1",
                "rule(3) = 3", "rule(6) = 0", "key(0, 4) = 0", "key(1, 0) = 5", "key(1, 1) = 3", "key(1, 2) = 6", "key(1, 3) = 0",
                "key(1, 4) = 0", "key(1, 5) = 0", "key(1, 6) = 0", "press(0, 0) = 7", "press(0, 1) = 1", "press(0, 2) = 1");
    }

    private static void p4ThatWhichWasToldStays() {
        edge(4, "-10 less the place of its FAULT: that which was told stays; THE TAPE is empty then").onRich("feed '$'")
            .taken("text() = -19", "fault() = 1", "count(2) = 0", "rule(0) = 2", "rule(1) = 3", "rule(2) = 5", "rule(3) = 2",
                "count(0) = 2", "count(1) = 2", "text() = 0")
            .onRich().tells("shut 1 1;press 2 1 1;", -31, 6).tells("shut 1 1;every 4;x", -27, 2);
    }

    private static void p5FaultOfTheLatestText() {
        edge(5, "the FAULT of the latest text(); 0").on().asked("fault() = 0")
            .on("feed '$'").asked("fault() = 0").taken("text() = -10", "fault() = 1", "fault() = 1", "text() = 0", "fault() = 0")
            .on("feed 'a'", "text()").asked("fault() = 2").taken("feed(97) = 1", "fault() = 2", "end(0) = 1", "fault() = 2")
            .on("feed 'every 5;'", "text()").asked("fault() = 3")
            .on("feed 'every 1;every'", "text()").asked("fault() = 4")
            .on("feed '" + FOUR_KEYS + "both'", "text()").asked("fault() = 5")
            .on("feed '" + PRESS + "'", "text()").asked("fault() = 6")
            .taken("keep(0) = 0", "back(0) = 0", "fault() = 6").taken("ticks(1) = 0", "fault() = 6");
    }
}
