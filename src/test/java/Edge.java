import java.util.ArrayList;
import java.util.List;

/**
 * A sentence of a promise that names a boundary: the calls just inside of it and just outside, each on an object of its
 * own. Rows are told as "strike(99, 0, 1) = 4". What changes nothing is compared with a twin on which the call was not
 * made, in all that can be asked, by calls that change things, too (images, the tape, the cells of sheets).
 */
final class Edge {
    /** All of it is other than in a new object: KEY 0 has a SUM, KEY 1 a REST; SHEET 3 alone is nothing. */
    private static final String[] RICH = {
        "tell 'scale 2 5;both 0 3;press 1 0 1;press 0 1 1;press 9 0 0;'", "keep(0)", "ticks(4)", "see(3, 0, 0)",
        "keep(1)", "ticks(1)", "see(2, 1, 1)", "every(2)",
        "sheet(0, 0, 7)", "lay(0, 0, 5)", "lay(0, 2, 1)", "lay(0, 3, 8)", "lay(0, 4, 1)", "lay(0, 6, 3)",
        "sheet(1, 1, 4)", "lay(1, 0, 77)", "lay(1, 3, 1)", "sheet(2, 2, 3)", "lay(2, 0, 99)", "lay(2, 2, 1)",
        "read(0, 1, 0, 1)", "feed '$'", "text()", "feed 'shut 3 4;'"};
    private static final int PROBES = 9;
    private static final int TAPE_PROBE = 3, FAULT_PROBE = 8;

    private final Checks checks;
    private final String about;
    private String[] steps = RICH;

    Edge(Checks checks, int promise, String sentence) {
        this.checks = checks;
        about = "promise " + promise + " (" + sentence + "): ";
    }

    /** The calls that follow are made on new objects behind these steps. */
    Edge on(String... newSteps) {
        steps = newSteps;
        return this;
    }

    /** The calls that follow are made on objects in which all is other than at first, behind these steps. */
    Edge onRich(String... more) {
        List<String> all = new ArrayList<>(List.of(RICH));
        all.addAll(List.of(more));
        steps = all.toArray(new String[0]);
        return this;
    }

    private static String callOf(String row) {
        return row.substring(0, row.lastIndexOf(" = "));
    }

    private static long answerOf(String row) {
        return Script.number(row.substring(row.lastIndexOf(" = ") + 3));
    }

    /** The call answers so; and behind it, one after another, the others do. */
    Edge taken(String row, String... behind) {
        Script x = new Script(steps);
        checks.due(about + callOf(row), x.call(callOf(row)), answerOf(row));
        for (String next : behind) {
            checks.due(about + callOf(row) + ", then " + callOf(next), x.call(callOf(next)), answerOf(next));
        }
        return this;
    }

    /** The call answers so and changes nothing. */
    Edge asked(String row) {
        String call = callOf(row);
        for (int probe = 0; probe < PROBES; probe++) {
            Script x = new Script(steps);
            checks.due(about + call, x.call(call), answerOf(row));
            checks.same(about + call + " changed something", probed(x, probe), probed(new Script(steps), probe));
        }
        return this;
    }

    Edge refused(String row) {
        if (answerOf(row) >= 0) {
            throw new IllegalArgumentException(row + " is no refusal");
        }
        return asked(row);
    }

    /** The # of a call that asks goes from least to most: these answer so, what is beyond them is BAD. */
    Edge asksWithin(String call, int least, long atLeast, int most, long atMost) {
        asked(call.replace("#", Integer.toString(least)) + " = " + atLeast);
        asked(call.replace("#", Integer.toString(most)) + " = " + atMost);
        return refusedBeyond(call, least, most);
    }

    /** The same of a call that changes something. */
    Edge takesWithin(String call, int least, long atLeast, int most, long atMost) {
        taken(call.replace("#", Integer.toString(least)) + " = " + atLeast);
        taken(call.replace("#", Integer.toString(most)) + " = " + atMost);
        return refusedBeyond(call, least, most);
    }

    private Edge refusedBeyond(String call, int least, int most) {
        int[] beyond = {least - 1, most + 1, Integer.MIN_VALUE, Integer.MAX_VALUE};
        for (int v : beyond) {
            refused(call.replace("#", Integer.toString(v)) + " = BAD");
        }
        return this;
    }

    /** A text on THE TAPE, empty before: text() answers so, THE TAPE is empty; with a FAULT all that was told stays. */
    Edge tells(String text, long answer, int fault) {
        String what = about + "'" + text + "' ";
        for (int probe = 0; probe < (answer < 0 ? PROBES : 1); probe++) {
            Script x = new Script(steps);
            x.call("end(0)");
            x.feed(text);
            checks.due(what + "text()", x.call("text()"), answer);
            checks.due(what + "fault()", x.call("fault()"), fault);
            checks.due(what + "count(2)", x.call("count(2)"), 0);
            if (answer < 0 && probe != FAULT_PROBE) {
                Script twin = new Script(steps);
                twin.call("end(0)");
                checks.same(what + "changed something", probed(x, probe), probed(twin, probe));
            }
        }
        return this;
    }

    private static String probed(Script x, int probe) {
        if (probe == 0) {
            return stateOf(x);
        }
        if (probe <= 2) {
            String call = "back(" + (probe - 1) + ")";
            return call + " " + x.call(call) + " " + stateOf(x);
        }
        if (probe == TAPE_PROBE) {
            return "text() " + x.call("text()") + " fault() " + x.call("fault()") + " " + stateOf(x);
        }
        return probe == FAULT_PROBE ? "fault() " + x.call("fault()") + seenOneByOne(x) : cellsOf(x, probe - 4);
    }

    /** All that can be asked without changing it, but fault(). */
    private static String stateOf(Script x) {
        StringBuilder s = new StringBuilder("torn ").append(x.call("torn()"));
        askEach(s, x, "rule(#)", 7);
        askEach(s, x, "count(#)", 6);
        long keys = x.call("rule(0)");
        for (int k = 0; k < keys; k++) {
            askEach(s, x, "key(" + k + ", #)", 7);
            s.append(fitsOf(x, k));
        }
        long presses = x.call("rule(1)");
        for (int i = 0; i < presses; i++) {
            askEach(s, x, "press(" + i + ", #)", 3);
        }
        return s.toString();
    }

    private static void askEach(StringBuilder s, Script x, String call, int n) {
        s.append(' ').append(call, 0, call.indexOf('('));
        for (int i = 0; i < n; i++) {
            s.append(' ').append(x.call(call.replace("#", Integer.toString(i))));
        }
    }

    private static String fitsOf(Script x, int k) {
        return " fit " + x.call("kinds(" + k + ")") + " " + x.call("numbers(" + k + ")") + " " + x.call("bounces(" + k + ")");
    }

    /** What fits with ever fewer of what was SEEN. */
    private static String seenOneByOne(Script x) {
        StringBuilder s = new StringBuilder();
        long keys = x.call("rule(0)");
        for (long n = x.call("count(0)"); n >= 0; n--) {
            x.call("forget(" + n + ")");
            for (int k = 0; k < keys; k++) {
                s.append(fitsOf(x, k));
            }
        }
        return s.toString();
    }

    /** Lane, length and CELLS of a SHEET, as far as PRESSES can show them. */
    private static String cellsOf(Script x, int k) {
        StringBuilder s = new StringBuilder("sheet " + k);
        for (int lane = 0; lane < 3; lane++) {
            x.call("drop(0)");
            s.append(" read ").append(x.call("read(" + k + ", " + lane + ", 0, 8)")).append(" torn ").append(x.call("torn()"));
            long presses = x.call("rule(1)");
            for (int i = 0; i < presses; i++) {
                askEach(s, x, "press(" + i + ", #)", 3);
            }
        }
        for (int i = 0; i <= 40; i++) {
            s.append(' ').append(x.call("lay(" + k + ", " + i + ", 0)"));
        }
        return s.toString();
    }
}
