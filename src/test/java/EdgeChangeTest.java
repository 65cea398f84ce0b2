/** The boundaries that promises 10 to 13 name: alter, every, strike, drop. */
public final class EdgeChangeTest {
    private static final Checks CHECKS = new Checks();
    private static final String FOUR_KEYS = "tell 'alike 1 6;scale 2 7;shut 3 8;both 4 9;'";

    public static void main(String[] args) {
        p10KeysThatThereAre();
        p10WhatBecomes();
        p10BouncesKindsNumbers();
        p10SumAboveNumber();
        p10SumAndRestStay();
        p11EveryFrom1To4();
        p11EveryDividesTick();
        p12TickKeyState();
        p12FullBeyondEight();
        p12BehindAllOthers();
        p13TheFirstAlone();
        p13NoneAndEight();
        CHECKS.finish();
    }

    private static Edge edge(int promise, String sentence) {
        return new Edge(CHECKS, promise, sentence);
    }

    private static void p10KeysThatThereAre() {
        edge(10, "of a KEY").takesWithin("alter(#, 0, 5)", 0, 2, 1, 0).on(FOUR_KEYS).takesWithin("alter(#, 2, 5)", 0, 6, 3, 9)
            .on().refused("alter(0, 0, 0) = BAD").refused("alter(-1, 0, 0) = BAD");
    }

    private static void p10WhatBecomes() {
        edge(10, "what 0 to 2").takesWithin("alter(0, #, 1)", 0, 2, 2, 5).taken("alter(0, 1, 1) = 1")
            .takesWithin("alter(1, #, 2)", 0, 0, 2, 3).taken("alter(1, 1, 2) = 3");
    }

    private static void p10BouncesKindsNumbers() {
        edge(10, "BOUNCE (0 to 9), KIND (0 to 3), NUMBER (1 to 9): what it was").takesWithin("alter(0, 0, #)", 0, 2, 9, 2)
            .takesWithin("alter(0, 1, #)", 0, 1, 3, 1).takesWithin("alter(0, 2, #)", 1, 5, 9, 5)
            .taken("alter(0, 0, 0) = 2", "key(0, 0) = 0", "alter(0, 0, 9) = 0", "key(0, 0) = 9")
            .taken("alter(0, 1, 0) = 1", "key(0, 1) = 0", "alter(0, 1, 3) = 0", "key(0, 1) = 3")
            .taken("alter(0, 2, 1) = 5", "key(0, 2) = 1", "alter(0, 2, 9) = 1", "key(0, 2) = 9");
    }

    private static void p10SumAboveNumber() {
        edge(10, "a SUM above NUMBER then becomes NUMBER").on("tell 'scale 0 9;press 0 0 1;'", "ticks(5)").asked("key(0, 4) = 5")
            .taken("alter(0, 2, 6) = 9", "key(0, 4) = 5", "key(0, 3) = 0")
            .taken("alter(0, 2, 5) = 9", "key(0, 4) = 5", "key(0, 3) = 0", "ticks(1) = 1", "key(0, 4) = 5")
            .taken("alter(0, 2, 4) = 9", "key(0, 4) = 4", "key(0, 3) = 0", "ticks(1) = 1", "key(0, 4) = 4")
            .taken("alter(0, 2, 1) = 9", "key(0, 4) = 1", "alter(0, 2, 9) = 1", "key(0, 4) = 1")
            .taken("strike(5, 0, 0) = 2", "alter(0, 2, 1) = 9", "ticks(1) = 0", "key(0, 4) = 0", "key(0, 3) = 0")
            .on("tell 'alike 0 9;press 0 0 1;'", "ticks(5)").taken("alter(0, 2, 4) = 9", "key(0, 4) = 4", "ticks(1) = 1")
            .taken("alter(0, 2, 5) = 9", "key(0, 4) = 5", "ticks(1) = 1").taken("alter(0, 2, 6) = 9", "key(0, 4) = 5", "ticks(1) = 1")
            .taken("alter(0, 2, 7) = 9", "key(0, 4) = 5", "ticks(1) = 0", "ticks(1) = 1");
    }

    private static void p10SumAndRestStay() {
        edge(10, "SUM, REST stay").onRich("alter(0, 1, 0)", "alter(0, 0, 9)").asked("key(0, 4) = 2")
            .onRich("alter(1, 1, 1)", "alter(1, 0, 9)", "alter(1, 2, 1)").asked("key(1, 5) = 1").asked("key(1, 3) = 1")
            .on("tell 'shut 0 9;press 0 0 1;'", "ticks(1)").taken("alter(0, 2, 1) = 9", "key(0, 5) = 9", "ticks(9) = 0", "key(0, 5) = 0")
            .taken("alter(0, 1, 0) = 2", "key(0, 5) = 9", "strike(1, 0, 0) = 2", "ticks(9) = 0", "key(0, 4) = 0", "key(0, 3) = 1",
                "ticks(8) = 0", "key(0, 4) = 8", "key(0, 3) = 1", "ticks(1) = 0", "key(0, 3) = 0");
    }

    private static void p11EveryFrom1To4() {
        edge(11, "EVERY (1 to 4) becomes v: what it was").takesWithin("every(#)", 1, 2, 4, 2)
            .taken("every(1) = 2", "rule(3) = 1", "every(4) = 1", "rule(3) = 4", "every(5) = BAD", "rule(3) = 4")
            .on().takesWithin("every(#)", 1, 1, 4, 1);
    }

    private static void p11EveryDividesTick() {
        edge(11, "if EVERY divides TICK, each SIEVE LOOKS").on("tell 'alike 0 1;press 0 0 1;every 4;'").asked("runs(1, 0) = 1")
            .on("tell 'alike 0 1;press 1 0 1;every 4;'").asked("runs(4, 0) = 0").asked("runs(5, 0) = 1")
            .on("tell 'alike 0 1;press 1 0 1;every 4;'", "ticks(3)", "every(3)").asked("runs(1, 0) = 1")
            .on("tell 'alike 0 1;press 1 0 1;every 4;'", "ticks(3)", "every(2)").asked("runs(1, 0) = 0").asked("runs(2, 0) = 1");
    }

    private static void p12TickKeyState() {
        edge(12, "at a TICK (0 to 99), of a KEY, STATE 1 or 0").takesWithin("strike(#, 0, 1)", 0, 4, 99, 4)
            .takesWithin("strike(7, #, 1)", 0, 4, 1, 4).takesWithin("strike(7, 0, #)", 0, 4, 1, 4)
            .on(FOUR_KEYS).takesWithin("strike(7, #, 1)", 0, 1, 3, 1).on().refused("strike(0, 0, 0) = BAD");
    }

    private static void p12FullBeyondEight() {
        edge(12, "how many there are; FULL: 8 at most").onRich("strike(50, 1, 1) * 4").taken("strike(99, 0, 1) = 8", "rule(1) = 8")
            .onRich("strike(50, 1, 1) * 5").refused("strike(99, 0, 1) = FULL").refused("strike(0, 1, 0) = FULL")
            .refused("strike(100, 0, 1) = BAD").refused("strike(-1, 0, 1) = BAD").refused("strike(50, 2, 1) = BAD")
            .refused("strike(50, -1, 1) = BAD").refused("strike(50, 1, 2) = BAD").refused("strike(50, 1, -1) = BAD")
            .taken("drop(7) = 8", "strike(99, 0, 1) = 8", "strike(99, 0, 1) = FULL");
    }

    private static void p12BehindAllOthers() {
        edge(12, "a PRESS more, behind all others").taken("strike(0, 1, 0) = 4", "press(3, 0) = 0", "press(3, 1) = 1",
                "press(3, 2) = 0", "press(0, 0) = 1", "press(2, 0) = 9", "contact(1, 0) = 0")
            .on("tell 'alike 0 1;'").taken("strike(99, 0, 1) = 1", "press(0, 0) = 99");
    }

    private static void p13TheFirstAlone() {
        edge(13, "PRESSES are the first n alone: how many there were").takesWithin("drop(#)", 0, 3, 3, 3)
            .taken("drop(2) = 3", "rule(1) = 2", "press(1, 0) = 0", "press(2, 0) = BAD", "contact(0, 9) = 1")
            .taken("drop(3) = 3", "press(2, 0) = 9", "contact(0, 9) = 0")
            .taken("drop(0) = 3", "rule(1) = 0", "press(0, 0) = BAD", "contact(1, 5) = 0", "drop(1) = BAD", "drop(0) = 0");
    }

    private static void p13NoneAndEight() {
        edge(13, "of none, of eight").on().takesWithin("drop(#)", 0, 0, 0, 0)
            .onRich("strike(50, 1, 1) * 5").takesWithin("drop(#)", 0, 8, 8, 8).taken("drop(8) = 8", "rule(1) = 8");
    }
}
