/** The boundaries that promises 6 to 9 name: rule, key, press, contact. */
public final class EdgeTellTest {
    private static final Checks CHECKS = new Checks();
    private static final String FOUR_KEYS = "tell 'alike 1 6;scale 2 7;shut 3 8;both 4 9;'";
    private static final String ALL_DOWN = "tell 'alike 0 1;alike 0 1;alike 0 1;alike 0 1;press 0 0 1;press 0 1 1;press 0 2 1;press 0 3 1;'";

    public static void main(String[] args) {
        p6WhatIsAsked();
        p6NoKeysAndFour();
        p6ContactsAtThisTick();
        p7KeysThatThereAre();
        p7WhatIsAsked();
        p7SumOfAScale();
        p7SumOfLooksAlike();
        p7Rest();
        p8PressesThatThereAre();
        p8WhatIsAsked();
        p9KeysAndTicks();
        p9NoPress();
        p9TheLatestPress();
        p9Bounce();
        CHECKS.finish();
    }

    private static Edge edge(int promise, String sentence) {
        return new Edge(CHECKS, promise, sentence);
    }

    private static void p6WhatIsAsked() {
        edge(6, "what 0 to 6").asksWithin("rule(#)", 0, 2, 6, 1).asked("rule(1) = 3").asked("rule(2) = 5")
            .asked("rule(3) = 2").asked("rule(4) = 2").asked("rule(5) = 3").on().asksWithin("rule(#)", 0, 0, 6, 0);
    }

    private static void p6NoKeysAndFour() {
        edge(6, "no KEYS; 4 at most").on().asked("rule(0) = 0").asked("rule(4) = 0").asked("rule(5) = 0").asked("rule(6) = 0")
            .on(ALL_DOWN, "ticks(1)").asked("rule(0) = 4").asked("rule(4) = 15").asked("rule(5) = 15").asked("rule(6) = 4")
            .on(ALL_DOWN).asked("rule(4) = 0").asked("rule(5) = 15").asked("rule(6) = 0")
            .on(ALL_DOWN, "strike(0, 0, 0)", "ticks(1)").asked("rule(4) = 14").asked("rule(5) = 14").asked("rule(6) = 3")
            .on(ALL_DOWN, "strike(0, 3, 0)", "ticks(1)").asked("rule(4) = 7").asked("rule(5) = 7").asked("rule(6) = 3")
            .on(ALL_DOWN, "strike(0, 3, 1) * 4").asked("rule(1) = 8");
    }

    private static void p6ContactsAtThisTick() {
        edge(6, "CONTACTS at this TICK").on("tell 'alike 0 1;press 3 0 1;press 5 0 0;'", "ticks(2)").asked("rule(5) = 0")
            .taken("ticks(1) = 0", "rule(5) = 1", "rule(4) = 0", "ticks(1) = 1", "rule(5) = 1", "rule(4) = 1",
                "ticks(1) = 0", "rule(5) = 0", "rule(4) = 1")
            .on("tell 'alike 0 1;press 99 0 1;'", "ticks(100) * 9", "ticks(99)").asked("rule(2) = 999").asked("rule(5) = 1");
    }

    private static void p7KeysThatThereAre() {
        edge(7, "of a KEY").asksWithin("key(#, 0)", 0, 2, 1, 0).asksWithin("key(#, 6)", 0, 0, 1, 1)
            .on(FOUR_KEYS).asksWithin("key(#, 0)", 0, 1, 3, 4).asksWithin("key(#, 1)", 0, 0, 3, 3)
            .asksWithin("key(#, 2)", 0, 6, 3, 9)
            .on().refused("key(0, 0) = BAD").refused("key(-1, 0) = BAD");
    }

    private static void p7WhatIsAsked() {
        edge(7, "what 0 to 6").asksWithin("key(0, #)", 0, 2, 6, 0).asked("key(0, 1) = 1").asked("key(0, 2) = 5")
            .asked("key(0, 3) = 0").asked("key(0, 4) = 2").asked("key(0, 5) = 0")
            .asksWithin("key(1, #)", 0, 0, 6, 1).asked("key(1, 3) = 1").asked("key(1, 5) = 1")
            .refused("key(2, 7) = BAD").refused("key(-1, -1) = BAD");
    }

    private static void p7SumOfAScale() {
        edge(7, "scale: SUM is 1 more, else 1 less (0 to NUMBER); at NUMBER it SAYS 1, at 0 it SAYS 0, else as it did")
            .on("tell 'scale 0 3;press 0 0 1;press 5 0 0;'", "ticks(2)").asked("key(0, 4) = 2").asked("key(0, 3) = 0")
            .taken("ticks(1) = 1", "key(0, 4) = 3", "key(0, 3) = 1", "ticks(1) = 0", "key(0, 4) = 3", "ticks(1) = 0",
                "key(0, 4) = 3", "ticks(2) = 0", "key(0, 4) = 1", "key(0, 3) = 1", "ticks(1) = 0", "key(0, 4) = 0",
                "key(0, 3) = 0", "ticks(1) = 0", "key(0, 4) = 0", "key(0, 6) = 1")
            .on("tell 'scale 0 1;press 0 0 1;press 1 0 0;'").taken("ticks(1) = 1", "key(0, 4) = 1", "ticks(1) = 0",
                "key(0, 4) = 0", "key(0, 3) = 0");
    }

    private static void p7SumOfLooksAlike() {
        edge(7, "SUM is 1 more, and if that is as much as it WANTS, or more; is the CONTACT what it SAYS, SUM is 0")
            .on("tell 'alike 0 3;press 0 0 1;'", "ticks(2)").asked("key(0, 4) = 2").asked("key(0, 3) = 0")
            .taken("ticks(1) = 1", "key(0, 4) = 0", "key(0, 3) = 1")
            .taken("alter(0, 2, 1) = 3", "key(0, 4) = 1", "ticks(1) = 1", "key(0, 4) = 0", "key(0, 3) = 1")
            .taken("alter(0, 1, 2) = 0", "key(0, 4) = 2", "ticks(1) = 1", "key(0, 4) = 0", "key(0, 5) = 3")
            .taken("strike(2, 0, 0) = 2", "ticks(1) = 0", "key(0, 4) = 0", "key(0, 3) = 0")
            .on("tell 'both 0 9;press 0 0 1;'", "ticks(8)").asked("key(0, 4) = 8").asked("key(0, 5) = 0")
            .taken("ticks(1) = 1", "key(0, 4) = 0", "key(0, 5) = 9");
    }

    private static void p7Rest() {
        edge(7, "is its REST above 0, that is 1 less, no more is done").on("tell 'shut 0 2;press 0 0 1;press 1 0 0;'", "ticks(1)")
            .asked("key(0, 5) = 2").taken("ticks(1) = 0", "key(0, 5) = 1", "key(0, 3) = 1", "ticks(1) = 0", "key(0, 5) = 0",
                "key(0, 3) = 1", "ticks(1) = 0", "key(0, 5) = 2", "key(0, 3) = 0")
            .on("tell 'shut 0 9;press 0 0 1;'", "ticks(1)").asked("key(0, 5) = 9")
            .on("tell 'alike 0 9;press 0 0 1;'", "ticks(9)").asked("key(0, 5) = 0").asked("key(0, 3) = 1")
            .on("tell 'scale 0 9;press 0 0 1;'", "ticks(9)").asked("key(0, 5) = 0").asked("key(0, 3) = 1");
    }

    private static void p8PressesThatThereAre() {
        edge(8, "of a PRESS").asksWithin("press(#, 0)", 0, 1, 2, 9).asksWithin("press(#, 2)", 0, 1, 2, 0)
            .onRich("strike(40, 1, 0) * 4", "strike(99, 1, 1)").asksWithin("press(#, 0)", 0, 1, 7, 99)
            .on().refused("press(0, 0) = BAD").refused("press(-1, 0) = BAD")
            .onRich("drop(1)").asksWithin("press(#, 0)", 0, 1, 0, 1);
    }

    private static void p8WhatIsAsked() {
        edge(8, "what 0 to 2").asksWithin("press(1, #)", 0, 0, 2, 1).asked("press(1, 1) = 1")
            .asksWithin("press(2, #)", 0, 9, 2, 0).asked("press(2, 1) = 0").refused("press(3, 3) = BAD");
    }

    private static void p9KeysAndTicks() {
        edge(9, "of a KEY at a TICK (0 to 999)").asksWithin("contact(#, 5)", 0, 1, 1, 1)
            .asksWithin("contact(0, #)", 0, 0, 999, 0).asksWithin("contact(1, #)", 0, 1, 999, 1)
            .on(FOUR_KEYS, "strike(0, 3, 1)").asksWithin("contact(#, 9)", 0, 0, 3, 1)
            .on().refused("contact(0, 0) = BAD").refused("contact(0, 1000) = BAD");
    }

    private static void p9NoPress() {
        edge(9, "CONTACT is 0, if there is none").on("tell 'alike 9 1;alike 9 1;press 4 0 1;'").asked("contact(0, 3) = 0")
            .asked("contact(0, 4) = 1").asked("contact(1, 4) = 0").asked("contact(1, 999) = 0")
            .on("tell 'alike 9 1;press 0 0 0;'").asked("contact(0, 0) = 0").asked("contact(0, 1) = 1");
    }

    private static void p9TheLatestPress() {
        edge(9, "the greatest TICK of those that is no more, of several the last by order")
            .on("tell 'alike 0 1;press 8 0 0;press 4 0 1;'").asked("contact(0, 3) = 0").asked("contact(0, 4) = 1")
            .asked("contact(0, 7) = 1").asked("contact(0, 8) = 0")
            .on("tell 'alike 0 1;press 4 0 1;press 4 0 0;'").asked("contact(0, 4) = 0")
            .on("tell 'alike 0 1;press 4 0 0;press 4 0 1;'").asked("contact(0, 4) = 1")
            .on("tell 'alike 0 1;press 99 0 1;'").asked("contact(0, 98) = 0").asked("contact(0, 99) = 1");
    }

    private static void p9Bounce() {
        edge(9, "if fewer TICKS than its BOUNCE have gone since, and an odd number of them, the other one")
            .on("tell 'alike 4 1;press 4 0 1;'").asked("contact(0, 4) = 1").asked("contact(0, 5) = 0")
            .asked("contact(0, 6) = 1").asked("contact(0, 7) = 0").asked("contact(0, 8) = 1").asked("contact(0, 9) = 1")
            .on("tell 'alike 3 1;press 4 0 1;'").asked("contact(0, 5) = 0").asked("contact(0, 7) = 1")
            .on("tell 'alike 2 1;press 4 0 0;'").asked("contact(0, 4) = 0").asked("contact(0, 5) = 1").asked("contact(0, 7) = 0")
            .on("tell 'alike 1 1;press 4 0 1;'").asked("contact(0, 5) = 1")
            .on("tell 'alike 0 1;press 4 0 1;'").asked("contact(0, 5) = 1")
            .on("tell 'alike 9 1;press 90 0 1;'").asked("contact(0, 97) = 0").asked("contact(0, 99) = 1")
            .on("tell 'alike 9 1;press 4 0 1;press 5 0 0;'").asked("contact(0, 5) = 0").asked("contact(0, 6) = 1")
            .asked("contact(0, 12) = 1").asked("contact(0, 14) = 0");
    }
}
