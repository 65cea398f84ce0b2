/** The boundaries that promises 14 to 18 name: ticks, runs, ahead, when, due. */
public final class EdgeTickTest {
    private static final Checks CHECKS = new Checks();

    public static void main(String[] args) {
        p14From0To100();
        p14FullAt1000();
        p14StrokesInThem();
        p15From0To200();
        p15WhatIsAsked();
        p15FourKeysEightPresses();
        p15BeyondTheLastTick();
        p16KeysTicksWhat();
        p16SaysBehindThem();
        p17KeysAndWhatIsSaid();
        p17FirstFrom0On();
        p17None();
        p18From0To200();
        p18OneOfTheTicksFromNowOn();
        CHECKS.finish();
    }

    private static Edge edge(int promise, String sentence) {
        return new Edge(CHECKS, promise, sentence);
    }

    private static void p14From0To100() {
        edge(14, "n TICKS (0 to 100)").takesWithin("ticks(#)", 0, 0, 100, 1).taken("ticks(0) = 0", "rule(2) = 5")
            .asked("ticks(0) = 0").taken("ticks(100) = 1", "rule(2) = 105").on().taken("ticks(100) = 0", "rule(2) = 100");
    }

    private static void p14FullAt1000() {
        edge(14, "FULL: TICK would be 1000 or more").onRich("ticks(94)", "ticks(100) * 8").taken("ticks(100) = 0", "rule(2) = 999")
            .onRich("ticks(95)", "ticks(100) * 8").asked("rule(2) = 900").refused("ticks(100) = FULL")
            .taken("ticks(99) = 0", "rule(2) = 999").refused("ticks(101) = BAD").refused("ticks(-1) = BAD")
            .onRich("ticks(94)", "ticks(100) * 9").asked("rule(2) = 999").refused("ticks(1) = FULL").refused("ticks(100) = FULL")
            .refused("ticks(101) = BAD").refused("ticks(-1) = BAD").asked("ticks(0) = 0")
            .taken("back(1) = 4", "ticks(100) = 1", "rule(2) = 104");
    }

    private static void p14StrokesInThem() {
        edge(14, "STROKES in them").taken("ticks(5) = 0", "ticks(1) = 1", "ticks(1) = 0", "rule(6) = 2")
            .taken("ticks(6) = 1", "key(0, 6) = 1", "key(1, 6) = 1")
            .on("tell 'alike 0 1;press 0 0 1;'").taken("ticks(1) = 1", "key(0, 6) = 1", "ticks(1) = 0", "key(0, 6) = 1");
    }

    private static void p15From0To200() {
        edge(15, "BY TICKS, n of them (0 to 200)").asksWithin("runs(#, 0)", 0, 0, 200, 1).asksWithin("runs(#, 1)", 0, 2, 200, 2)
            .asksWithin("runs(#, 2)", 0, 0, 200, 2).asksWithin("runs(#, 3)", 0, 0, 200, 13)
            .on().asksWithin("runs(#, 0)", 0, 0, 200, 0).asksWithin("runs(#, 3)", 0, 0, 200, 0);
    }

    private static void p15WhatIsAsked() {
        edge(15, "what 0 to 3").asksWithin("runs(200, #)", 0, 1, 3, 13).asked("runs(200, 1) = 2").asked("runs(200, 2) = 2")
            .asked("runs(5, 0) = 0").asked("runs(6, 0) = 1").asked("runs(6, 1) = 3").asked("runs(15, 2) = 1")
            .asked("runs(16, 2) = 2").asked("runs(4, 3) = 4").asked("runs(6, 3) = 4").asked("runs(7, 3) = 5")
            .asked("runs(15, 3) = 13").asked("runs(16, 3) = 13");
    }

    private static void p15FourKeysEightPresses() {
        edge(15, "any: of no more KEYS than 4, PRESSES than 8")
            .on("tell 'alike 0 1;alike 0 1;alike 0 2;alike 0 1;'", "strike(2, 0, 1)", "strike(2, 1, 1)", "strike(2, 2, 1)", "strike(2, 3, 1)",
                "strike(4, 0, 0)", "strike(4, 1, 0)", "strike(4, 2, 0)", "strike(4, 3, 0)")
            .asked("runs(3, 0) = 3").asked("runs(4, 0) = 4").asked("runs(3, 1) = 11").asked("runs(4, 1) = 15").asked("runs(5, 1) = 4")
            .asked("runs(200, 1) = 0").asked("runs(3, 2) = 3").asked("runs(4, 2) = 4").asked("runs(200, 2) = 8").asked("runs(200, 3) = 2")
            .asked("due(200) = 4").taken("drop(3) = 8", "runs(200, 0) = 3", "runs(200, 1) = 7", "runs(200, 2) = 3", "due(200) = 3");
    }

    private static void p15BeyondTheLastTick() {
        edge(15, "as it would be from now on, at TICK 999, too").on("tell 'alike 0 9;press 99 0 1;'", "ticks(100) * 9", "ticks(99)")
            .taken("drop(0) = 1", "runs(9, 0) = 0", "runs(8, 1) = 1", "runs(9, 1) = 0", "runs(200, 2) = 1", "rule(2) = 999");
    }

    private static void p16KeysTicksWhat() {
        edge(16, "a SIEVE; n of them (0 to 200); what 0, 1").asksWithin("ahead(#, 6, 0)", 0, 1, 1, 1)
            .asksWithin("ahead(#, 6, 1)", 0, 1, 1, 0).asksWithin("ahead(0, #, 0)", 0, 0, 200, 0)
            .asksWithin("ahead(0, #, 1)", 0, 0, 200, 1).asksWithin("ahead(1, #, 0)", 0, 1, 200, 1)
            .asksWithin("ahead(0, 6, #)", 0, 1, 1, 1).asksWithin("ahead(1, 6, #)", 0, 1, 1, 0)
            .on().refused("ahead(0, 0, 0) = BAD");
    }

    private static void p16SaysBehindThem() {
        edge(16, "what a SIEVE SAYS then, STROKES of its KEY in them").asked("ahead(0, 5, 0) = 0").asked("ahead(0, 5, 1) = 0")
            .asked("ahead(0, 6, 0) = 1").asked("ahead(0, 6, 1) = 1").asked("ahead(0, 15, 0) = 1").asked("ahead(0, 16, 0) = 0")
            .asked("ahead(0, 16, 1) = 1");
    }

    private static void p17KeysAndWhatIsSaid() {
        edge(17, "a SIEVE; v (0, 1)").asksWithin("when(#, 1)", 0, 6, 1, 0).asksWithin("when(0, #)", 0, 0, 1, 6)
            .on().refused("when(0, 0) = BAD").refused("when(0, 1) = BAD");
    }

    private static void p17FirstFrom0On() {
        edge(17, "behind how many (0 to 200) first").on("tell 'alike 0 1;press 0 0 1;press 1 0 0;'").asked("when(0, 0) = 0")
            .asked("when(0, 1) = 1").taken("ticks(1) = 1", "when(0, 1) = 0", "when(0, 0) = 1")
            .on("tell 'alike 0 1;press 99 0 1;'").asked("when(0, 1) = 100")
            // 9 looks alike from TICK 108 on.
            .on("tell 'both 9 9;press 99 0 1;every 4;'").asked("when(0, 1) = 141")
            .on("tell 'alike 0 1;press 99 0 1;'", "ticks(100) * 9", "ticks(99)", "drop(0)").asked("when(0, 0) = 1");
    }

    private static void p17None() {
        edge(17, "NONE: behind none").refused("when(1, 0) = NONE").refused("when(1, 2) = BAD")
            .on("tell 'alike 0 1;'").refused("when(0, 1) = NONE").asked("when(0, 0) = 0")
            .on("tell 'alike 0 2;press 5 0 1;press 6 0 0;'").refused("when(0, 1) = NONE")
            .on("tell 'alike 0 2;press 5 0 1;press 7 0 0;'").asked("when(0, 1) = 7");
    }

    private static void p18From0To200() {
        edge(18, "in n TICKS (0 to 200)").on("tell 'alike 0 1;press 0 0 1;press 99 0 1;'").asksWithin("due(#)", 0, 0, 200, 2)
            .onRich("strike(5, 0, 1)").asksWithin("due(#)", 0, 0, 200, 1).on().asksWithin("due(#)", 0, 0, 200, 0);
    }

    private static void p18OneOfTheTicksFromNowOn() {
        edge(18, "PRESSES of STATE 1 whose TICK is one of the n from now on")
            .on("tell 'alike 0 1;alike 0 1;press 4 0 1;press 5 0 1;press 7 0 0;press 10 1 1;press 10 0 1;'", "ticks(5)")
            .asked("due(0) = 0").asked("due(1) = 1").asked("due(5) = 1").asked("due(6) = 3").asked("due(200) = 3")
            .taken("ticks(1) = 0", "due(200) = 2", "ticks(4) = 0", "due(1) = 2", "ticks(1) = 2", "due(200) = 0")
            .on("tell 'alike 0 1;'", "strike(7, 0, 1) * 8").asked("due(7) = 0").asked("due(8) = 8")
            .taken("drop(7) = 8", "due(200) = 7", "drop(0) = 7", "due(200) = 0")
            .on("tell 'alike 0 1;press 99 0 1;'").asked("due(99) = 0").asked("due(100) = 1")
            .on("tell 'alike 0 1;press 99 0 1;'", "ticks(100) * 9", "ticks(99)").asked("due(200) = 0");
    }
}
