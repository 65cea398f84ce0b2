/** Promises 10 to 13: alter, every, strike, drop. */
public final class ChangeTest {
    private static final Checks CHECKS = new Checks();

    public static void main(String[] args) {
        alterAnswers();
        alterKeepsSumAndRest();
        every();
        strike();
        drop();
        CHECKS.finish();
    }

    private static void alterAnswers() {
        KeySieves x = Checks.told("alike 1 2;both 3 4;");
        CHECKS.due("alter(0, 0, 9)", x.alter(0, 0, 9), 1);
        CHECKS.due("alter(0, 0, 0)", x.alter(0, 0, 0), 9);
        CHECKS.due("alter(0, 1, 3)", x.alter(0, 1, 3), 0);
        CHECKS.due("alter(0, 1, 0)", x.alter(0, 1, 0), 3);
        CHECKS.due("alter(0, 2, 9)", x.alter(0, 2, 9), 2);
        CHECKS.due("alter(0, 2, 1)", x.alter(0, 2, 1), 9);
        CHECKS.due("alter(1, 1, 2)", x.alter(1, 1, 2), 3);
        CHECKS.same("altered keys", Checks.all(x), "fault 0 torn 0 rule 2 0 0 1 0 0 0 count 0 0 0 -4 3 5"
            + " key 0 0 1 0 0 0 0 fit 15 1022 1023 key 3 2 4 0 0 0 0 fit 15 1022 1023");
    }

    private static void alterKeepsSumAndRest() {
        KeySieves x = Checks.told("scale 0 9;both 0 5;press 0 0 1;press 0 1 1;");
        x.ticks(7);
        CHECKS.due("SUM", x.key(0, 4), 7);
        CHECKS.due("REST", x.key(1, 5), 3);
        x.alter(0, 1, 0);
        x.alter(0, 0, 5);
        x.alter(1, 1, 1);
        x.alter(1, 2, 1);
        CHECKS.due("SUM of an altered KIND", x.key(0, 4), 7);
        CHECKS.due("REST of an altered KIND", x.key(1, 5), 3);
        x.alter(0, 2, 7);
        CHECKS.due("SUM as much as NUMBER", x.key(0, 4), 7);
        x.alter(0, 2, 6);
        CHECKS.due("SUM above NUMBER", x.key(0, 4), 6);
        CHECKS.due("it does not SAY by alter()", x.key(0, 3), 0);
        CHECKS.due("a SUM that is more than WANTED", x.ticks(1), 1);
        CHECKS.due("SUM then", x.key(0, 4), 0);
        CHECKS.due("a scale RESTS, too", x.key(1, 5), 2);
        CHECKS.due("a scale that RESTS has no SUM", x.key(1, 4), 0);
        x.ticks(3);
        CHECKS.due("a scale that has RESTED", x.key(1, 4), 1);
    }

    private static void every() {
        KeySieves x = Checks.told("alike 0 1;");
        CHECKS.due("every(4)", x.every(4), 1);
        CHECKS.due("every(1)", x.every(1), 4);
        CHECKS.due("every(3)", x.every(3), 1);
        CHECKS.refused("every(0)", x, () -> x.every(0), KeySieves.BAD);
        CHECKS.refused("every(5)", x, () -> x.every(5), KeySieves.BAD);
        CHECKS.refused("every(-1)", x, () -> x.every(-1), KeySieves.BAD);
        CHECKS.due("rule(3)", x.rule(3), 3);
    }

    private static void strike() {
        KeySieves none = new KeySieves();
        CHECKS.refused("strike without KEYS", none, () -> none.strike(0, 0, 1), KeySieves.BAD);
        KeySieves x = Checks.told("alike 0 1;shut 0 1;press 7 0 1;");
        CHECKS.due("strike(99, 1, 1)", x.strike(99, 1, 1), 2);
        CHECKS.due("strike(0, 0, 0)", x.strike(0, 0, 0), 3);
        CHECKS.due("its TICK", x.press(1, 0), 99);
        CHECKS.due("its KEY", x.press(1, 1), 1);
        CHECKS.due("its STATE", x.press(1, 2), 1);
        for (int n = 4; n <= 8; n++) {
            CHECKS.due("strike the PRESS " + n, x.strike(n, 1, 1), n);
        }
        CHECKS.refused("strike the 9th", x, () -> x.strike(9, 1, 1), KeySieves.FULL);
        CHECKS.refused("strike what is BAD and FULL", x, () -> x.strike(100, 1, 1), KeySieves.BAD);
    }

    private static void drop() {
        KeySieves x = Checks.told("alike 0 1;press 1 0 1;press 2 0 0;press 3 0 1;");
        CHECKS.refused("drop(-1)", x, () -> x.drop(-1), KeySieves.BAD);
        CHECKS.refused("drop(4)", x, () -> x.drop(4), KeySieves.BAD);
        CHECKS.due("drop(3)", x.drop(3), 3);
        CHECKS.due("drop(1)", x.drop(1), 3);
        CHECKS.due("PRESSES left", x.rule(1), 1);
        CHECKS.due("the first is left", x.press(0, 0), 1);
        CHECKS.due("contact without what was dropped", x.contact(0, 2), 1);
        CHECKS.due("drop(0)", x.drop(0), 1);
        CHECKS.due("drop(1) of none", x.drop(1), KeySieves.BAD);
    }
}
