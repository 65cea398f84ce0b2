/** The boundaries that promises 19 to 25 name: need, bear, kind, slow, lose, luck, mean. */
public final class EdgeBestTest {
    private static final Checks CHECKS = new Checks();
    /** By NUMBER 1 KEY 0 strikes 5 times in each press and 4 in each letting go: the 20th time in TICK 42, then in 44. */
    private static final String BOUNCING =
        "tell 'alike 9 1;scale 0 1;press 0 0 1;press 10 0 0;press 20 0 1;press 30 0 0;press 40 0 1;'";
    private static final String DOWN = "tell 'alike 0 1;press 0 0 1;'";
    private static final String FOUR_KEYS = "tell 'alike 0 1;alike 0 1;alike 0 1;alike 0 1;'";

    public static void main(String[] args) {
        p19KeysTicksStrokes();
        p19JustSoMany();
        p19LeastNumber();
        p19None();
        p20KeysTicksStrokes();
        p20JustSoMany();
        p20None();
        p21KeysTicksWhat();
        p21OfSeveralTheFirst();
        p22TicksWhat();
        p22OfSeveralTheGreatest();
        p23TicksWhat();
        p23MoreThanAsItIs();
        p23FirstAndLast();
        p23ThoseBehindStay();
        p24OddsKeysTicksWhat();
        p24OfContactsThatChange();
        p24LowestTerms();
        p25OddsTicksWhat();
        p25OfContactsThatChange();
        p25LowestTerms();
        CHECKS.finish();
    }

    private static Edge edge(int promise, String sentence) {
        return new Edge(CHECKS, promise, sentence);
    }

    private static void p19KeysTicksStrokes() {
        edge(19, "of a KEY; m (0 to 20) STROKES in n TICKS (0 to 200)").on(BOUNCING).asksWithin("need(#, 0, 0)", 0, 1, 1, 1)
            .asksWithin("need(#, 200, 1)", 0, 3, 1, KeySieves.NONE).asksWithin("need(0, #, 0)", 0, 1, 200, KeySieves.NONE)
            .asksWithin("need(0, #, 1)", 0, KeySieves.NONE, 200, 3).asksWithin("need(0, 43, #)", 0, 3, 20, 1)
            .on().refused("need(0, 0, 0) = BAD").onRich().asksWithin("need(#, 0, 0)", 0, 1, 1, 1);
    }

    private static void p19JustSoMany() {
        edge(19, "just m STROKES").on(BOUNCING).asked("need(0, 43, 20) = 1").refused("need(0, 42, 20) = NONE")
            .asked("need(0, 42, 19) = 1").asked("need(0, 44, 20) = 1").refused("need(0, 45, 20) = NONE")
            .refused("need(0, 45, 21) = BAD").asked("need(0, 43, 2) = 2");
    }

    private static void p19LeastNumber() {
        edge(19, "the least NUMBER (1 to 9), as by alter()").on(DOWN).asked("need(0, 9, 1) = 1").asked("need(0, 1, 0) = 2")
            .asked("need(0, 8, 0) = 9").refused("need(0, 9, 0) = NONE")
            .on("tell 'scale 0 9;press 0 0 1;press 8 0 0;'", "ticks(8)").asked("need(0, 1, 0) = 1").refused("need(0, 1, 1) = NONE")
            .on("tell 'scale 0 9;press 0 0 1;'", "ticks(8)").asked("need(0, 1, 1) = 1").refused("need(0, 1, 0) = NONE");
    }

    private static void p19None() {
        edge(19, "NONE: by none; BAD ahead of it").on(DOWN).refused("need(0, 200, 20) = NONE").refused("need(0, 200, 21) = BAD")
            .refused("need(0, 0, 1) = NONE").refused("need(0, -1, 1) = BAD").refused("need(1, 0, 1) = BAD")
            .onRich().refused("need(0, 200, 20) = NONE").refused("need(1, 0, 1) = NONE");
    }

    private static void p20KeysTicksStrokes() {
        edge(20, "of a KEY; m (0 to 20) STROKES in n TICKS (0 to 200)").on(BOUNCING).asksWithin("bear(#, 0, 0)", 0, 9, 1, 9)
            .asksWithin("bear(#, 200, 3)", 0, 1, 1, KeySieves.NONE).asksWithin("bear(0, #, 0)", 0, 9, 200, KeySieves.NONE)
            .asksWithin("bear(0, #, 3)", 0, KeySieves.NONE, 200, 1).asksWithin("bear(0, 43, #)", 0, KeySieves.NONE, 20, 9)
            .on().refused("bear(0, 0, 0) = BAD").onRich().asksWithin("bear(#, 0, 0)", 0, 9, 1, 9);
    }

    private static void p20JustSoMany() {
        edge(20, "the greatest BOUNCE (0 to 9) by which it has just m").on(BOUNCING).asked("bear(0, 43, 20) = 9")
            .refused("bear(0, 42, 20) = NONE").asked("bear(0, 42, 19) = 9").refused("bear(0, 45, 20) = NONE")
            .refused("bear(0, 45, 21) = BAD").asked("bear(0, 45, 17) = 7")
            .on(DOWN).asked("bear(0, 9, 5) = 9").asked("bear(0, 9, 4) = 7").asked("bear(0, 9, 2) = 3").asked("bear(0, 9, 1) = 1");
    }

    private static void p20None() {
        edge(20, "NONE: by none; BAD ahead of it").on(DOWN).refused("bear(0, 9, 6) = NONE").refused("bear(0, 9, 0) = NONE")
            .refused("bear(0, 200, 20) = NONE").refused("bear(0, 200, 21) = BAD").refused("bear(0, 201, 20) = BAD")
            .refused("bear(1, 9, 6) = BAD").onRich().refused("bear(0, 200, 20) = NONE").refused("bear(1, 0, 1) = NONE");
    }

    private static void p21KeysTicksWhat() {
        edge(21, "of a KEY; n TICKS (0 to 200); what 0, 1").asksWithin("kind(#, 200, 0)", 0, 0, 1, 0)
            .asksWithin("kind(#, 200, 1)", 0, 1, 1, 1).asksWithin("kind(0, #, 0)", 0, 0, 200, 0)
            .asksWithin("kind(0, #, 1)", 0, 0, 200, 1).asksWithin("kind(0, 200, #)", 0, 0, 1, 1)
            .on().refused("kind(0, 0, 0) = BAD");
    }

    private static void p21OfSeveralTheFirst() {
        edge(21, "differ least, of several the first").on(DOWN).asked("kind(0, 0, 0) = 0").asked("kind(0, 1, 0) = 0")
            .asked("kind(0, 1, 1) = 0")
            // The shut one alone strikes in the first TICK.
            .on("tell 'alike 0 2;press 0 0 1;'").asked("kind(0, 1, 0) = 2").asked("kind(0, 1, 1) = 0").asked("kind(0, 2, 0) = 0")
            // The shut one alone looks away when the contact opens.
            .on("tell 'alike 2 1;press 0 0 1;'").asked("kind(0, 9, 0) = 2").asked("kind(0, 9, 1) = 0")
            .on("tell 'alike 4 2;press 9 0 1;press 5 0 0;every 2;'").asked("kind(0, 60, 0) = 3").asked("kind(0, 60, 1) = 0");
    }

    private static void p22TicksWhat() {
        edge(22, "n TICKS (0 to 200); what 0, 1").asksWithin("slow(#, 0)", 0, 4, 200, 4).asksWithin("slow(#, 1)", 0, 0, 200, 0)
            .asksWithin("slow(200, #)", 0, 4, 1, 0).on().asksWithin("slow(#, 0)", 0, 4, 200, 4).asksWithin("slow(#, 1)", 0, 0, 200, 0)
            .on("tell 'alike 0 1;press 7 0 1;press 8 0 0;every 4;'").asksWithin("slow(200, #)", 0, 1, 1, 0);
    }

    private static void p22OfSeveralTheGreatest() {
        edge(22, "EVERY (1 to 4) by which they differ least, of several the greatest")
            .on("tell 'alike 0 1;press 7 0 1;press 8 0 0;every 4;'").asked("slow(7, 0) = 4").asked("slow(8, 0) = 1")
            .asked("slow(8, 1) = 0").asked("slow(7, 1) = 0")
            .on("tell 'alike 0 1;press 8 0 1;press 9 0 0;'").asked("slow(200, 0) = 4")
            .on("tell 'alike 0 1;press 9 0 1;press 10 0 0;'").asked("slow(200, 0) = 3")
            .on("tell 'alike 0 1;press 10 0 1;press 11 0 0;'").asked("slow(200, 0) = 2")
            .on("tell 'alike 0 9;press 11 0 1;press 12 0 0;'").asked("slow(200, 0) = 4").asked("slow(200, 1) = 1")
            // It is down from before, so that it strikes by each EVERY, though nothing is due.
            .on("tell 'alike 0 1;press 1 0 1;every 4;'", "ticks(2)").asked("due(200) = 0").asked("slow(200, 0) = 4").asked("slow(200, 1) = 1");
    }

    private static void p23TicksWhat() {
        edge(23, "n TICKS (0 to 200); what 0, 1").on("tell 'alike 0 1;press 3 0 1;press 3 0 0;'")
            .asksWithin("lose(#, 0)", 0, KeySieves.NONE, 200, 1).asksWithin("lose(#, 1)", 0, KeySieves.NONE, 200, 1)
            .asksWithin("lose(200, #)", 0, 1, 1, 1).onRich().asksWithin("lose(200, #)", 0, KeySieves.NONE, 1, KeySieves.NONE);
    }

    private static void p23MoreThanAsItIs() {
        edge(23, "more than as it is; NONE: none").on("tell 'alike 0 1;press 3 0 1;press 3 0 0;'").refused("lose(3, 0) = NONE")
            .refused("lose(3, 1) = NONE").asked("lose(4, 0) = 1").asked("lose(4, 1) = 1")
            .on("tell 'alike 0 1;press 1 0 1;press 3 0 1;'").refused("lose(200, 0) = NONE")
            .on("tell 'alike 0 1;'").refused("lose(200, 0) = NONE").refused("lose(200, 1) = NONE")
            .on().refused("lose(0, 0) = NONE").refused("lose(200, 1) = NONE").refused("lose(201, 1) = BAD");
    }

    private static void p23FirstAndLast() {
        edge(23, "the PRESS, of several the first").on("tell 'alike 0 4;press 6 0 0;press 5 0 1;'").asked("lose(20, 0) = 0")
            .asked("lose(20, 1) = 1")
            .on("tell 'alike 0 1;'", "strike(3, 0, 1) * 7", "strike(3, 0, 0)").asked("lose(20, 0) = 7").asked("lose(20, 1) = 1")
            .on("tell 'alike 0 1;alike 0 1;press 3 0 1;press 3 1 1;press 3 0 0;press 3 1 0;'").asked("lose(20, 0) = 2");
    }

    private static void p23ThoseBehindStay() {
        edge(23, "the PRESS alone had better not be").on("tell 'alike 0 1;alike 0 1;press 3 0 1;press 3 0 0;press 5 1 1;press 8 1 0;press 9 1 1;'")
            .asked("runs(10, 0) = 2").asked("lose(10, 0) = 1").asked("lose(10, 1) = 3").asked("lose(5, 1) = 1")
            .taken("drop(3) = 5", "lose(10, 1) = 2", "lose(5, 1) = 1", "lose(6, 1) = 2");
    }

    private static void p24OddsKeysTicksWhat() {
        edge(24, "n TICKS (0 to 8), v out of ten (0 to 10), a SIEVE, what 0, 1").on("tell 'alike 0 8;alike 0 1;'")
            .asksWithin("luck(1, 0, #, 0)", 0, 0, 8, 1).asksWithin("luck(1, 0, #, 1)", 0, 1, 8, 100000000)
            .asksWithin("luck(#, 1, 1, 0)", 0, 0, 10, 1).asksWithin("luck(#, 1, 1, 1)", 0, 1, 10, 1)
            .asksWithin("luck(#, 0, 8, 0)", 0, 0, 10, 1).asksWithin("luck(5, #, 8, 1)", 0, 256, 1, 2)
            .asksWithin("luck(5, 0, 8, #)", 0, 1, 1, 256).on().refused("luck(0, 0, 0, 0) = BAD")
            .onRich().asksWithin("luck(5, #, 0, 0)", 0, 0, 1, 1).asksWithin("luck(5, 1, #, 1)", 0, 1, 8, 8);
    }

    private static void p24OfContactsThatChange() {
        edge(24, "each CONTACT is the other one").on("tell 'alike 0 1;press 1 0 1;press 7 0 0;'").asked("luck(0, 0, 1, 0) = 0")
            .asked("luck(0, 0, 2, 0) = 1").asked("luck(0, 0, 7, 0) = 1").asked("luck(0, 0, 8, 0) = 0").asked("luck(10, 0, 1, 0) = 1")
            .asked("luck(10, 0, 7, 0) = 0").asked("luck(10, 0, 8, 0) = 1").asked("luck(1, 0, 7, 0) = 9").asked("luck(1, 0, 8, 0) = 1")
            .asked("luck(1, 0, 8, 1) = 10")
            .on("tell 'alike 0 1;press 1 0 1;press 7 0 0;every 2;'").asked("luck(1, 0, 2, 0) = 1").asked("luck(1, 0, 3, 0) = 9");
    }

    private static void p24LowestTerms() {
        edge(24, "fractions in lowest terms, the denominator above 0 (0 is 0 by 1)").on("tell 'alike 0 8;alike 0 1;'")
            .asked("luck(0, 1, 8, 0) = 0").asked("luck(0, 1, 8, 1) = 1").asked("luck(10, 1, 8, 0) = 1").asked("luck(10, 1, 8, 1) = 1")
            .asked("luck(5, 0, 7, 0) = 0").asked("luck(5, 0, 7, 1) = 1").asked("luck(9, 0, 8, 0) = 43046721")
            .asked("luck(9, 0, 8, 1) = 100000000").asked("luck(1, 1, 1, 0) = 1").asked("luck(1, 1, 1, 1) = 10")
            .asked("luck(9, 1, 1, 0) = 9").asked("luck(4, 1, 1, 0) = 2").asked("luck(4, 1, 1, 1) = 5")
            .asked("luck(2, 0, 8, 0) = 1").asked("luck(2, 0, 8, 1) = 390625");
    }

    private static void p25OddsTicksWhat() {
        edge(25, "n TICKS (0 to 8), v out of ten (0 to 10), what 0, 1").on(FOUR_KEYS).asksWithin("mean(5, #, 0)", 0, 0, 8, 9)
            .asksWithin("mean(5, #, 1)", 0, 1, 8, 1).asksWithin("mean(#, 8, 0)", 0, 0, 10, 4).asksWithin("mean(#, 8, 1)", 0, 1, 10, 1)
            .asksWithin("mean(5, 8, #)", 0, 9, 1, 1).on().asksWithin("mean(5, #, 0)", 0, 0, 8, 0).asksWithin("mean(5, #, 1)", 0, 1, 8, 1)
            .onRich().asksWithin("mean(#, 8, 1)", 0, 1, 10, 1);
    }

    private static void p25OfContactsThatChange() {
        // Quietly one STROKE in the second TICK; always noisy one in the first and one in the eighth.
        edge(25, "likewise, the mean of STROKES").on("tell 'alike 0 1;press 1 0 1;press 7 0 0;'").asked("mean(0, 1, 0) = 0")
            .asked("mean(0, 2, 0) = 1").asked("mean(0, 8, 0) = 1").asked("mean(10, 1, 0) = 1").asked("mean(10, 7, 0) = 1")
            .asked("mean(10, 8, 0) = 2").asked("mean(1, 1, 0) = 1").asked("mean(1, 1, 1) = 10").asked("mean(1, 2, 0) = 91")
            .asked("mean(1, 2, 1) = 100").asked("mean(1, 3, 0) = 1").asked("mean(1, 3, 1) = 1");
    }

    private static void p25LowestTerms() {
        edge(25, "fractions in lowest terms, the denominator above 0 (0 is 0 by 1)").on("tell 'alike 0 1;'")
            .asked("mean(0, 8, 0) = 0").asked("mean(0, 8, 1) = 1").asked("mean(10, 8, 0) = 1").asked("mean(10, 8, 1) = 1")
            .asked("mean(1, 8, 0) = 73").asked("mean(1, 8, 1) = 100").asked("mean(5, 8, 0) = 9").asked("mean(5, 8, 1) = 4")
            .asked("mean(5, 0, 0) = 0").asked("mean(5, 0, 1) = 1").asked("mean(1, 1, 1) = 10").asked("mean(9, 1, 0) = 9");
    }
}
