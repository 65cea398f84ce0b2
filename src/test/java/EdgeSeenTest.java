/** The boundaries that promises 26 to 31 name: see, forget, kinds, numbers, bounces, ask. */
public final class EdgeSeenTest {
    private static final Checks CHECKS = new Checks();
    private static final String DOWN = "tell 'alike 0 3;press 0 0 1;'";
    private static final String LATE = "tell 'alike 0 3;press 39 0 1;'";

    public static void main(String[] args) {
        p26TicksKeyWhatIsSaid();
        p26FullBeyondSix();
        p27TheFirstAlone();
        p27NoneAndSix();
        p28KeysAndKinds();
        p29KeysAndNumbers();
        p29NowAndBehind40();
        p30KeysAndBounces();
        p28To30AllElseAsItIs();
        p31KeysAndWhat();
        p31From0To40();
        p31FewerThanNow();
        CHECKS.finish();
    }

    private static Edge edge(int promise, String sentence) {
        return new Edge(CHECKS, promise, sentence);
    }

    private static void p26TicksKeyWhatIsSaid() {
        edge(26, "behind n TICKS (0 to 40) the SIEVE of a KEY SAYS v (0, 1)").takesWithin("see(#, 0, 1)", 0, 3, 40, 3)
            .takesWithin("see(7, #, 1)", 0, 3, 1, 3).takesWithin("see(7, 0, #)", 0, 3, 1, 3)
            .on("tell 'alike 0 1;alike 0 1;alike 0 1;alike 0 1;'").takesWithin("see(7, #, 1)", 0, 1, 3, 1)
            .on().refused("see(0, 0, 0) = BAD");
    }

    private static void p26FullBeyondSix() {
        edge(26, "how many are; FULL: SEEN (6)").onRich("see(7, 0, 0) * 3").taken("see(40, 1, 1) = 6", "count(0) = 6")
            .onRich("see(7, 0, 0) * 4").refused("see(40, 1, 0) = FULL").refused("see(0, 0, 1) = FULL").refused("see(41, 0, 0) = BAD")
            .refused("see(-1, 0, 0) = BAD").refused("see(0, 2, 0) = BAD").refused("see(0, -1, 0) = BAD")
            .refused("see(0, 0, 2) = BAD").refused("see(0, 0, -1) = BAD")
            .taken("forget(5) = 6", "see(40, 1, 1) = 6", "see(40, 1, 1) = FULL");
    }

    private static void p27TheFirstAlone() {
        edge(27, "SEEN are the first n alone: how many there were").takesWithin("forget(#)", 0, 2, 2, 2)
            .taken("forget(2) = 2", "count(0) = 2").taken("forget(1) = 2", "count(0) = 1", "forget(2) = BAD", "forget(1) = 1")
            .on(DOWN, "see(3, 0, 1)", "see(3, 0, 0)").taken("numbers(0) = 0", "forget(1) = 2", "numbers(0) = 14", "forget(0) = 1",
                "numbers(0) = 1022");
    }

    private static void p27NoneAndSix() {
        edge(27, "of none, of six").on().takesWithin("forget(#)", 0, 0, 0, 0).onRich("see(7, 0, 0) * 4")
            .takesWithin("forget(#)", 0, 6, 6, 6).taken("forget(0) = 6", "count(0) = 0", "forget(0) = 0", "forget(1) = BAD");
    }

    private static void p28KeysAndKinds() {
        edge(28, "KINDS of a KEY (bits)").asksWithin("kinds(#)", 0, 11, 1, 15).onRich("forget(0)").asksWithin("kinds(#)", 0, 15, 1, 15)
            .onRich("see(0, 0, 1)").asksWithin("kinds(#)", 0, 0, 1, 0).on().refused("kinds(0) = BAD")
            .on(DOWN, "see(1, 0, 1)").asked("kinds(0) = 4").on(DOWN, "see(2, 0, 0)").asked("kinds(0) = 11");
    }

    private static void p29KeysAndNumbers() {
        edge(29, "NUMBERS of a KEY (bits 1 to 9; as by alter())").asksWithin("numbers(#)", 0, 1008, 1, 1022)
            .onRich("forget(0)").asksWithin("numbers(#)", 0, 1022, 1, 1022).onRich("see(0, 0, 1)").asksWithin("numbers(#)", 0, 0, 1, 0)
            .on().refused("numbers(0) = BAD").on(DOWN, "see(1, 0, 1)").asked("numbers(0) = 2")
            .on(DOWN, "see(8, 0, 0)").asked("numbers(0) = 512").on(DOWN, "see(9, 0, 0)").asked("numbers(0) = 0")
            .on(DOWN, "see(9, 0, 1)").asked("numbers(0) = 1022").on(DOWN, "see(8, 0, 1)").asked("numbers(0) = 510")
            .on("tell 'scale 0 9;press 0 0 1;'", "ticks(6)", "see(1, 0, 1)").asked("numbers(0) = 254");
    }

    private static void p29NowAndBehind40() {
        edge(29, "SEEN behind 0 TICKS, behind 40").on(LATE, "see(40, 0, 1)").asked("numbers(0) = 2")
            .on(LATE, "see(39, 0, 1)").asked("numbers(0) = 0").on(LATE, "see(40, 0, 0)").asked("numbers(0) = 1020")
            .on(DOWN, "see(0, 0, 0)").asked("numbers(0) = 1022").on(DOWN, "see(0, 0, 1)").asked("numbers(0) = 0")
            .on(DOWN, "ticks(3)", "see(0, 0, 1)").asked("numbers(0) = 1022")
            .on("tell 'alike 0 1;press 99 0 1;'", "ticks(100) * 9", "ticks(99)", "drop(0)", "see(4, 0, 0)").asked("numbers(0) = 30");
    }

    private static void p30KeysAndBounces() {
        edge(30, "BOUNCES of a KEY (bits 0 to 9)").asksWithin("bounces(#)", 0, 1023, 1, 1023)
            .onRich("see(0, 0, 1)").asksWithin("bounces(#)", 0, 0, 1, 0).on().refused("bounces(0) = BAD")
            .on("tell 'alike 0 1;press 0 0 1;'").taken("see(2, 0, 1) = 1", "bounces(0) = 3").taken("see(2, 0, 0) = 1", "bounces(0) = 1020")
            .taken("see(8, 0, 0) = 1", "bounces(0) = 768").taken("see(8, 0, 1) = 1", "bounces(0) = 255")
            .taken("see(10, 0, 0) = 1", "bounces(0) = 0").taken("see(10, 0, 1) = 1", "bounces(0) = 1023");
    }

    private static void p28To30AllElseAsItIs() {
        String two = "tell 'alike 0 3;alike 0 1;press 0 0 1;'";
        edge(28, "all else as it is, all is as SEEN").on(two, "see(1, 1, 1)").asked("kinds(0) = 0").asked("kinds(1) = 0")
            .on(two, "see(1, 1, 0)").asked("kinds(0) = 15").asked("kinds(1) = 15");
        edge(29, "all else as it is, all is as SEEN").on(two, "see(1, 1, 1)").asked("numbers(0) = 0").asked("numbers(1) = 0")
            .on(two, "see(1, 1, 0)").asked("numbers(0) = 1022").asked("numbers(1) = 1022");
        edge(30, "all else as it is, all is as SEEN").on(two, "see(1, 1, 1)").asked("bounces(0) = 0").asked("bounces(1) = 0")
            .on(two, "see(1, 1, 0)").asked("bounces(0) = 1023").asked("bounces(1) = 1023");
    }

    private static void p31KeysAndWhat() {
        edge(31, "of a KEY; what 0, 1").asksWithin("ask(0, #)", 0, 6, 1, 4).asksWithin("ask(#, 0)", 0, 6, 1, KeySieves.NONE)
            .asksWithin("ask(#, 1)", 0, 4, 1, KeySieves.NONE).on().refused("ask(0, 0) = BAD").refused("ask(0, 1) = BAD");
    }

    private static void p31From0To40() {
        edge(31, "behind how many TICKS (0 to 40), the first").on(LATE).asked("ask(0, 0) = 40").asked("ask(0, 1) = 8").taken("ask(0, 0) = 40", "ask(0, 1) = 8")
            .on("tell 'alike 0 3;press 40 0 1;'").refused("ask(0, 0) = NONE").refused("ask(0, 1) = NONE")
            .on("tell 'alike 0 3;press 36 0 1;'").asked("ask(0, 0) = 40").asked("ask(0, 1) = 5")
            .on("tell 'alike 0 3;press 35 0 1;'").asked("ask(0, 0) = 39").asked("ask(0, 1) = 5")
            .on(DOWN, "see(2, 0, 1)").asked("ask(0, 0) = 1").asked("ask(0, 1) = 1")
            .on(DOWN).asked("ask(0, 0) = 4").asked("ask(0, 1) = 5").taken("ask(0, 0) = 4", "ask(0, 0) = 4", "ask(0, 1) = 5");
    }

    private static void p31FewerThanNow() {
        edge(31, "fewer than now; NONE: none").on(DOWN, "see(3, 0, 1)", "see(1, 0, 0)").asked("numbers(0) = 12")
            .asked("ask(0, 0) = 2").asked("ask(0, 1) = 1")
            .on(DOWN, "see(2, 0, 1)", "see(1, 0, 0)").asked("numbers(0) = 4").refused("ask(0, 0) = NONE").refused("ask(0, 1) = NONE")
            .on(DOWN, "see(9, 0, 0)").asked("numbers(0) = 0").refused("ask(0, 0) = NONE").refused("ask(0, 1) = NONE")
            .on("tell 'alike 0 3;'").refused("ask(0, 0) = NONE").refused("ask(0, 2) = BAD")
            .on(DOWN, "see(0, 0, 0) * 6").asked("ask(0, 0) = 4")
            .on("tell 'alike 0 1;alike 0 1;press 0 0 1;press 3 0 0;'", "ticks(3)", "see(4, 0, 0)").asked("numbers(0) = 30")
            .taken("ask(0, 0) = 2", "ask(0, 1) = 2", "forget(0) = 1", "ask(1, 0) = NONE");
    }
}
