/** Promises 26 to 31: see, forget, kinds, numbers, bounces, ask. */
public final class SeenTest {
    private static final Checks CHECKS = new Checks();

    public static void main(String[] args) {
        see();
        forget();
        kinds();
        numbers();
        bounces();
        seenFromNowOn();
        ask();
        CHECKS.finish();
    }

    private static void see() {
        KeySieves none = new KeySieves();
        CHECKS.refused("see without KEYS", none, () -> none.see(0, 0, 0), KeySieves.BAD);
        KeySieves x = Checks.told("alike 0 1;shut 0 1;");
        CHECKS.due("see(0, 0, 0)", x.see(0, 0, 0), 1);
        CHECKS.due("see(40, 1, 1)", x.see(40, 1, 1), 2);
        for (int n = 3; n <= 6; n++) {
            CHECKS.due("see the " + n + "th", x.see(n, 0, 1), n);
        }
        CHECKS.refused("see the 7th", x, () -> x.see(0, 0, 0), KeySieves.FULL);
        CHECKS.refused("see what is BAD and FULL", x, () -> x.see(41, 0, 0), KeySieves.BAD);
        CHECKS.due("count(0)", x.count(0), 6);
    }

    private static void forget() {
        KeySieves x = Checks.told("alike 0 1;press 2 0 1;");
        x.see(3, 0, 1);
        x.see(4, 0, 0);
        x.see(5, 0, 1);
        CHECKS.due("numbers(0) with what can not be", x.numbers(0), 0);
        CHECKS.refused("forget(-1)", x, () -> x.forget(-1), KeySieves.BAD);
        CHECKS.refused("forget(4)", x, () -> x.forget(4), KeySieves.BAD);
        CHECKS.due("forget(3)", x.forget(3), 3);
        CHECKS.due("forget(1)", x.forget(1), 3);
        CHECKS.due("count(0)", x.count(0), 1);
        CHECKS.due("numbers(0) by the first", x.numbers(0), 2);
        CHECKS.due("forget(0)", x.forget(0), 1);
        CHECKS.due("numbers(0) by nothing", x.numbers(0), 1022);
        CHECKS.due("forget(1) of none", x.forget(1), KeySieves.BAD);
    }

    private static void kinds() {
        KeySieves x = Checks.told("alike 0 3;press 0 0 1;press 3 0 0;");
        CHECKS.due("kinds(0)", x.kinds(0), 15);
        x.see(1, 0, 1);
        CHECKS.due("kinds(0) of what SAYS 1 at once", x.kinds(0), 4);
        x.forget(0);
        x.see(3, 0, 1);
        x.see(6, 0, 0);
        CHECKS.due("kinds(0) of what SAYS 0 behind 6", x.kinds(0), 7);
        x.see(9, 0, 0);
        CHECKS.due("kinds(0) that do not RUN out", x.kinds(0), 7);
        x.forget(2);
        x.see(4, 0, 0);
        CHECKS.due("kinds(0) of what is shut", x.kinds(0), 0);
        x.forget(1);
        x.see(8, 0, 1);
        CHECKS.due("kinds(0) of what does both", x.kinds(0), 8);
        CHECKS.refused("kinds(0)", x, () -> x.kinds(0), 8);
    }

    private static void numbers() {
        KeySieves x = Checks.told("alike 0 3;alike 0 1;press 0 0 1;");
        CHECKS.due("numbers(0)", x.numbers(0), 1022);
        x.see(4, 0, 1);
        CHECKS.due("numbers(0) of 1 to 4", x.numbers(0), 30);
        x.see(1, 0, 0);
        CHECKS.due("numbers(0) of 2 to 4", x.numbers(0), 28);
        CHECKS.due("numbers(1), which was not SEEN", x.numbers(1), 1022);
        x.see(2, 1, 1);
        CHECKS.due("numbers(0) if the other is not as SEEN", x.numbers(0), 0);
        CHECKS.due("numbers(1) that can not be", x.numbers(1), 0);
        x.forget(0);
        x.see(40, 0, 0);
        CHECKS.due("numbers(0) behind 40", x.numbers(0), 0);
        CHECKS.refused("numbers(0)", x, () -> x.numbers(0), 0);
        KeySieves capped = Checks.told("scale 0 9;press 0 0 1;");
        capped.ticks(6);
        capped.see(1, 0, 1);
        CHECKS.due("numbers(0) of a SUM above NUMBER", capped.numbers(0), 254);
        KeySieves said = Checks.told("alike 0 1;");
        said.see(0, 0, 1);
        CHECKS.due("numbers(0) of what it SAYS now", said.numbers(0), 0);
    }

    private static void bounces() {
        KeySieves x = Checks.told("alike 0 1;press 0 0 1;");
        x.see(2, 0, 0);
        CHECKS.due("bounces(0) of what opens at 1", x.bounces(0), 1020);
        x.see(6, 0, 1);
        CHECKS.due("bounces(0) of what is closed at 5", x.bounces(0), 60);
        x.see(4, 0, 0);
        CHECKS.due("bounces(0) of what is open at 3", x.bounces(0), 48);
        x.see(3, 0, 0);
        CHECKS.due("bounces(0) of what can not be", x.bounces(0), 0);
        CHECKS.refused("bounces(0)", x, () -> x.bounces(0), 0);
        x.forget(0);
        CHECKS.due("bounces(0)", x.bounces(0), 1023);
    }

    private static void seenFromNowOn() {
        KeySieves x = Checks.told("alike 0 3;press 2 0 1;");
        x.see(4, 0, 1);
        CHECKS.due("numbers(0) at 0", x.numbers(0), 6);
        x.ticks(2);
        CHECKS.due("SEEN stays", x.count(0), 1);
        CHECKS.due("numbers(0) at 2", x.numbers(0), 30);
        x.alter(0, 2, 9);
        CHECKS.due("numbers(0) whatever the NUMBER is", x.numbers(0), 30);
    }

    private static void ask() {
        KeySieves x = Checks.told("alike 0 3;alike 0 3;press 0 0 1;");
        CHECKS.due("ask(0, 0)", x.ask(0, 0), 4);
        CHECKS.due("ask(0, 1)", x.ask(0, 1), 5);
        CHECKS.due("ask(1, 0) of what is never pressed", x.ask(1, 0), KeySieves.NONE);
        CHECKS.due("ask(1, 1) of what is never pressed", x.ask(1, 1), KeySieves.NONE);
        x.see(4, 0, 1);
        CHECKS.due("ask(0, 0) of 4", x.ask(0, 0), 2);
        CHECKS.due("ask(0, 1) of 4", x.ask(0, 1), 2);
        x.see(2, 0, 0);
        CHECKS.due("ask(0, 0) of 2", x.ask(0, 0), 3);
        CHECKS.due("ask(0, 1) of 2", x.ask(0, 1), 1);
        x.see(3, 0, 0);
        CHECKS.due("ask(0, 0) of 1", x.ask(0, 0), KeySieves.NONE);
        x.see(4, 0, 0);
        CHECKS.due("ask(0, 0) of none", x.ask(0, 0), KeySieves.NONE);
        CHECKS.due("ask(0, 1) of none", x.ask(0, 1), KeySieves.NONE);
        x.forget(0);
        CHECKS.refused("ask(0, 0)", x, () -> x.ask(0, 0), 4);
        KeySieves late = Checks.told("alike 0 3;press 36 0 1;");
        CHECKS.due("ask(0, 0) at the end", late.ask(0, 0), 40);
        CHECKS.due("ask(0, 1) at the end", late.ask(0, 1), 5);
        KeySieves later = Checks.told("alike 0 3;press 40 0 1;");
        CHECKS.due("ask(0, 0) too late", later.ask(0, 0), KeySieves.NONE);
        KeySieves two = Checks.told("alike 0 3;press 0 0 1;");
        two.see(7, 0, 0);
        CHECKS.due("NUMBERS 8 and 9", two.numbers(0), 768);
        CHECKS.due("ask(0, 0) of 8 and 9", two.ask(0, 0), 8);
        CHECKS.due("ask(0, 1) of 8 and 9", two.ask(0, 1), 1);
        KeySieves again = Checks.told("alike 0 3;alike 0 3;press 0 0 1;press 3 0 0;");
        again.ticks(3);
        again.see(4, 0, 0);
        CHECKS.due("ask(0, 0) of what is let go", again.ask(0, 0), 2);
        again.forget(0);
        CHECKS.due("ask(1, 0) behind another ask()", again.ask(1, 0), KeySieves.NONE);
        KeySieves full = Checks.told("alike 0 3;press 0 0 1;");
        for (int i = 0; i < 6; i++) {
            full.see(0, 0, 0);
        }
        CHECKS.due("ask(0, 0) when SEEN is full", full.ask(0, 0), 4);
    }
}
