/** The boundaries that promises 32 to 34 name: drift, keep, back. */
public final class EdgeImageTest {
    private static final Checks CHECKS = new Checks();
    private static final String FOUR_KEYS = "tell 'alike 0 1;alike 0 1;alike 0 1;alike 0 1;'";

    public static void main(String[] args) {
        p32TicksAndWhat();
        p32SeedsWrapAround();
        p32NoKeys();
        p33TwoImages();
        p33AllOfThem();
        p34TwoImages();
        p34ThereIsNone();
        p34AllIsAsTheImage();
        CHECKS.finish();
    }

    private static Edge edge(int promise, String sentence) {
        return new Edge(CHECKS, promise, sentence);
    }

    private static void p32TicksAndWhat() {
        edge(32, "n TICKS (1 to 200); what 0, 1").on(FOUR_KEYS).asksWithin("drift(7, #, 0)", 1, 2, 200, 198)
            .asksWithin("drift(7, #, 1)", 1, 12, 200, 14).asksWithin("drift(7, 200, #)", 0, 198, 1, 14)
            .on("tell 'alike 0 1;'").asksWithin("drift(-1, #, 0)", 1, 1, 200, 55)
            .onRich().asksWithin("drift(7, #, 0)", 1, 0, 200, 2).asksWithin("drift(7, #, 1)", 1, 2, 200, 0);
    }

    private static void p32SeedsWrapAround() {
        edge(32, "the seed becomes seed times 1103515245 and 12345; bits 16 to 30 of it").on(FOUR_KEYS)
            .asked("drift(0, 1, 1) = 0").asked("drift(0, 200, 0) = 206").asked("drift(0, 200, 1) = 9")
            .asked("drift(1, 1, 1) = 6").asked("drift(1, 200, 0) = 187").asked("drift(1, 200, 1) = 8")
            .asked("drift(-1, 1, 1) = 9").asked("drift(-1, 200, 0) = 215").asked("drift(-1, 200, 1) = 11")
            .asked("drift(MAX, 1, 1) = 9").asked("drift(MAX, 2, 0) = 2").asked("drift(MAX, 200, 0) = 215")
            .asked("drift(MIN, 1, 1) = 0").asked("drift(MIN, 2, 1) = 12").asked("drift(MIN, 200, 0) = 206");
    }

    private static void p32NoKeys() {
        edge(32, "STATE: there are no KEYS; BAD ahead of it").on().refused("drift(7, 1, 0) = STATE").refused("drift(7, 200, 1) = STATE")
            .refused("drift(7, 0, 0) = BAD").refused("drift(7, 201, 0) = BAD").refused("drift(7, 1, -1) = BAD")
            .refused("drift(7, 1, 2) = BAD").onRich("end(0)", "text()", "ticks(5)", "every(3)", "keep(1)").refused("drift(7, 1, 0) = STATE")
            .on("tell 'alike 0 1;'").asked("drift(7, 1, 0) = 0");
    }

    private static void p33TwoImages() {
        edge(33, "IMAGE k (0, 1): whether there was one (1, 0)").takesWithin("keep(#)", 0, 1, 1, 1).on().takesWithin("keep(#)", 0, 0, 1, 0)
            .taken("keep(0) = 0", "count(1) = 1", "keep(0) = 1", "count(1) = 1", "keep(1) = 0", "count(1) = 2", "keep(1) = 1")
            .onRich("text()").takesWithin("keep(#)", 0, 0, 1, 0);
    }

    private static void p33AllOfThem() {
        edge(33, "KEYS, PRESSES (all of them), EVERY, TICK, what was SEEN")
            .on("tell 'alike 0 1;alike 0 1;alike 0 1;shut 7 9;'", "strike(9, 3, 1) * 7", "strike(99, 3, 1)", "see(40, 3, 1) * 6",
                "every(4)", "ticks(100)", "keep(0)", "drop(0)", "forget(0)", "every(1)", "ticks(3)", "alter(3, 0, 1)", "alter(3, 2, 1)")
            .taken("back(0) = 100", "rule(1) = 8", "press(7, 0) = 99", "press(0, 0) = 9", "count(0) = 6", "rule(3) = 4", "rule(0) = 4",
                "key(3, 0) = 7", "key(3, 1) = 2", "key(3, 2) = 9", "key(3, 3) = 1", "strike(0, 0, 0) = FULL", "see(0, 0, 0) = FULL")
            .on("keep(1)", "ticks(9)").taken("back(1) = 0", "rule(0) = 0", "rule(1) = 0", "rule(3) = 1", "count(0) = 0");
    }

    private static void p34TwoImages() {
        edge(34, "all is as IMAGE k: TICK").takesWithin("back(#)", 0, 0, 1, 4).taken("back(0) = 0", "back(0) = 0", "back(1) = 4")
            .taken("keep(0) = 1", "ticks(7) = 1", "back(0) = 5", "back(1) = 4")
            .onRich("ticks(94)", "ticks(100) * 9", "keep(1)").taken("back(0) = 0", "back(1) = 999", "ticks(1) = FULL");
    }

    private static void p34ThereIsNone() {
        edge(34, "STATE: there is none").on().refused("back(0) = STATE").refused("back(1) = STATE").refused("back(-1) = BAD")
            .refused("back(2) = BAD").refused("back(MIN) = BAD").refused("back(MAX) = BAD")
            .on("keep(0)").refused("back(1) = STATE").taken("back(0) = 0").on("keep(1)").refused("back(0) = STATE").taken("back(1) = 0")
            .on("tell 'shut 0 9;press 0 0 1;every 2;'", "ticks(3)", "see(7, 0, 1)", "keep(0)", "ticks(2)", "strike(9, 0, 0)", "every(3)")
            .refused("back(1) = STATE").taken("back(0) = 3")
            .onRich("text()", "strike(9, 0, 1)", "ticks(5)", "see(9, 0, 1)").refused("back(0) = STATE").refused("back(1) = STATE").refused("back(2) = BAD");
    }

    private static void p34AllIsAsTheImage() {
        edge(34, "all is as IMAGE k; what is in no IMAGE stays").taken("back(1) = 4", "rule(3) = 1", "count(0) = 1", "key(0, 4) = 1",
                "key(1, 5) = 2", "count(1) = 2", "count(2) = 9", "count(3) = 7", "torn() = 3", "fault() = 1", "read(2, 2, 0, 1) = 1",
                "press(3, 0) = 99", "text() = 1")
            .onRich("back(1)").asked("back(1) = 4")
            .taken("back(0) = 0", "rule(4) = 0", "rule(6) = 0", "count(0) = 0", "key(0, 4) = 0", "key(1, 5) = 0", "rule(1) = 3");
    }
}
