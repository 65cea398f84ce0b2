/** Promises 19 to 25: need, bear, kind, slow, lose, luck, mean. */
public final class BestTest {
    private static final Checks CHECKS = new Checks();

    public static void main(String[] args) {
        need();
        bear();
        kind();
        slow();
        lose();
        luck();
        mean();
        CHECKS.finish();
    }

    private static void need() {
        KeySieves x = Checks.told("shut 4 5;scale 0 4;press 0 0 1;press 0 1 1;");
        CHECKS.due("just 2", x.need(0, 20, 2), 1);
        CHECKS.due("just 1", x.need(0, 20, 1), 3);
        CHECKS.due("just 0", x.need(0, 20, 0), KeySieves.NONE);
        CHECKS.due("just 20", x.need(0, 200, 20), KeySieves.NONE);
        CHECKS.due("in 0 ticks", x.need(0, 0, 0), 1);
        CHECKS.due("none in 5", x.need(1, 5, 0), 6);
        CHECKS.due("none in 8", x.need(1, 8, 0), 9);
        CHECKS.due("none in 9", x.need(1, 9, 0), KeySieves.NONE);
        CHECKS.refused("need(0, 20, 1)", x, () -> x.need(0, 20, 1), 3);
        KeySieves capped = Checks.told("scale 0 9;press 0 0 1;press 8 0 0;");
        capped.ticks(8);
        CHECKS.due("a SUM above NUMBER as by alter()", capped.need(0, 1, 0), 1);
        capped.drop(1);
        CHECKS.due("a SUM above NUMBER strikes at once", capped.need(0, 1, 1), 1);
        KeySieves early = Checks.told("alike 0 9;press 0 0 1;press 4 0 0;");
        early.ticks(4);
        CHECKS.due("from now on", early.need(0, 200, 0), 1);
    }

    private static void bear() {
        KeySieves x = Checks.told("alike 0 1;shut 0 2;press 0 0 1;press 0 1 1;");
        CHECKS.due("just 1", x.bear(0, 20, 1), 1);
        CHECKS.due("just 2", x.bear(0, 20, 2), 3);
        CHECKS.due("just 5", x.bear(0, 20, 5), 9);
        CHECKS.due("just 6", x.bear(0, 20, 6), KeySieves.NONE);
        CHECKS.due("just 20", x.bear(0, 200, 20), KeySieves.NONE);
        CHECKS.due("in 0 ticks", x.bear(0, 0, 0), 9);
        CHECKS.due("of a shut one", x.bear(1, 20, 1), 3);
        CHECKS.refused("bear(0, 20, 2)", x, () -> x.bear(0, 20, 2), 3);
    }

    private static void kind() {
        KeySieves x = Checks.told("alike 5 2;press 0 0 1;press 7 0 0;press 9 0 1;press 10 0 0;");
        // alike, scale, both miss the second press; the shut one strikes thrice.
        CHECKS.due("the first of several", x.kind(0, 30, 0), 0);
        CHECKS.due("by how much", x.kind(0, 30, 1), 1);
        KeySieves shutIsBest = Checks.told("alike 0 4;press 0 0 1;press 3 0 0;");
        CHECKS.due("shut is best", shutIsBest.kind(0, 30, 0), 2);
        CHECKS.due("by nothing", shutIsBest.kind(0, 30, 1), 0);
        KeySieves bothIsBest = Checks.told("alike 4 2;press 9 0 1;press 5 0 0;every 2;");
        CHECKS.due("both is best", bothIsBest.kind(0, 60, 0), 3);
        CHECKS.due("both by nothing", bothIsBest.kind(0, 60, 1), 0);
        KeySieves others = Checks.told("alike 0 1;alike 4 1;press 0 0 1;press 0 1 1;press 99 0 1;press 98 0 0;press 97 0 1;press 96 0 0;");
        CHECKS.due("STROKES of all count", others.kind(0, 99, 0), 2);
        CHECKS.due("STROKES of all count, by", others.kind(0, 99, 1), 1);
        CHECKS.due("in 0 ticks", others.kind(1, 0, 0), 0);
        CHECKS.due("in 0 ticks by", others.kind(1, 0, 1), 0);
        CHECKS.refused("kind(0, 30, 0)", shutIsBest, () -> shutIsBest.kind(0, 30, 0), 2);
    }

    private static void slow() {
        KeySieves x = Checks.told("alike 0 1;press 1 0 1;press 3 0 0;every 3;");
        CHECKS.due("the greatest that sees it", x.slow(20, 0), 2);
        CHECKS.due("by nothing", x.slow(20, 1), 0);
        KeySieves bounces = Checks.told("alike 3 1;press 0 0 1;press 3 0 0;press 6 0 1;press 9 0 0;");
        CHECKS.due("EVERY of a key that bounces", bounces.slow(30, 0), 3);
        CHECKS.due("by", bounces.slow(30, 1), 0);
        KeySieves quick = Checks.told("alike 0 1;press 7 0 1;press 8 0 0;every 4;");
        CHECKS.due("EVERY of what is short", quick.slow(60, 0), 1);
        CHECKS.due("EVERY of what is short, by", quick.slow(60, 1), 0);
        KeySieves never = Checks.told("alike 0 9;press 1 0 1;press 2 0 0;press 3 0 1;press 4 0 0;");
        CHECKS.due("of several the greatest", never.slow(20, 0), 4);
        CHECKS.due("by two", never.slow(20, 1), 2);
        CHECKS.due("without KEYS", new KeySieves().slow(200, 0), 4);
        CHECKS.due("without KEYS by", new KeySieves().slow(200, 1), 0);
        CHECKS.refused("slow(20, 0)", x, () -> x.slow(20, 0), 2);
        CHECKS.due("EVERY stays", x.rule(3), 3);
    }

    private static void lose() {
        KeySieves x = Checks.told("alike 0 1;press 1 0 1;press 3 0 0;press 3 0 1;press 5 0 1;");
        CHECKS.due("the one that hides", x.lose(10, 0), 2);
        CHECKS.due("STROKES then", x.lose(10, 1), 2);
        CHECKS.due("in too few ticks", x.lose(5, 0), KeySieves.NONE);
        CHECKS.due("in too few ticks, how many", x.lose(5, 1), KeySieves.NONE);
        CHECKS.due("in 0 ticks", x.lose(0, 0), KeySieves.NONE);
        KeySieves first = Checks.told("alike 0 1;alike 0 1;press 3 0 1;press 3 1 1;press 3 0 0;press 3 1 0;");
        CHECKS.due("of several the first", first.lose(10, 0), 2);
        CHECKS.due("of several, how many", first.lose(10, 1), 1);
        KeySieves atOnce = Checks.told("alike 0 4;press 6 0 0;press 5 0 1;");
        CHECKS.due("the first of all", atOnce.lose(20, 0), 0);
        CHECKS.due("the first of all, how many", atOnce.lose(20, 1), 1);
        KeySieves last = Checks.told("alike 0 1;press 3 0 1;press 3 0 0;");
        CHECKS.due("the last of all", last.lose(20, 0), 1);
        KeySieves between = Checks.told("alike 0 1;alike 0 1;press 3 0 1;press 3 0 0;press 5 1 1;");
        CHECKS.due("those behind stay as they are", between.lose(10, 0), 1);
        CHECKS.due("those behind strike, too", between.lose(10, 1), 2);
        KeySieves most = Checks.told("alike 0 1;alike 0 1;press 1 0 1;press 1 0 0;press 1 1 1;press 2 1 0;press 3 1 1;press 4 1 0;press 1 1 0;press 3 1 0;");
        CHECKS.due("most of all", most.lose(10, 1), 1);
        KeySieves none = Checks.told("alike 0 1;press 1 0 1;");
        CHECKS.due("none", none.lose(200, 0), KeySieves.NONE);
        CHECKS.due("no PRESSES", new KeySieves().lose(200, 1), KeySieves.NONE);
        CHECKS.refused("lose(10, 0)", x, () -> x.lose(10, 0), 2);
    }

    private static void lucky(KeySieves x, int v, int k, int n, long over, long under) {
        String call = "luck(" + v + ", " + k + ", " + n + ", ";
        CHECKS.due(call + "0)", x.luck(v, k, n, 0), over);
        CHECKS.due(call + "1)", x.luck(v, k, n, 1), under);
    }

    private static void luck() {
        KeySieves x = Checks.told("alike 0 1;alike 0 2;shut 0 1;");
        lucky(x, 3, 0, 0, 0, 1);
        lucky(x, 3, 0, 1, 3, 10);
        lucky(x, 4, 0, 1, 2, 5);
        lucky(x, 0, 0, 8, 0, 1);
        lucky(x, 10, 0, 8, 1, 1);
        lucky(x, 3, 0, 8, 3, 10);
        lucky(x, 5, 1, 2, 1, 4);
        lucky(x, 3, 1, 2, 9, 100);
        lucky(x, 5, 1, 3, 3, 8);
        lucky(x, 5, 2, 2, 3, 4);
        x.every(2);
        lucky(x, 3, 0, 2, 3, 10);
        lucky(x, 5, 1, 3, 1, 4);
        CHECKS.refused("luck(3, 0, 2, 1)", x, () -> x.luck(3, 0, 2, 1), 10);
        KeySieves down = Checks.told("alike 0 1;press 0 0 1;");
        lucky(down, 3, 0, 1, 7, 10);
        lucky(down, 10, 0, 1, 0, 1);
        KeySieves goesDown = Checks.told("alike 0 1;press 1 0 1;press 2 0 0;");
        lucky(goesDown, 1, 0, 1, 1, 10);
        lucky(goesDown, 1, 0, 2, 9, 10);
        lucky(goesDown, 1, 0, 3, 1, 10);
        KeySieves certain = Checks.told("alike 0 9;press 0 0 1;");
        certain.ticks(9);
        lucky(certain, 5, 0, 8, 1, 1);
        KeySieves dear = Checks.told("alike 0 8;");
        lucky(dear, 1, 0, 8, 1, 100000000);
        lucky(dear, 3, 0, 8, 6561, 100000000);
    }

    private static void meant(KeySieves x, int v, int n, long over, long under) {
        String call = "mean(" + v + ", " + n + ", ";
        CHECKS.due(call + "0)", x.mean(v, n, 0), over);
        CHECKS.due(call + "1)", x.mean(v, n, 1), under);
    }

    private static void mean() {
        KeySieves x = Checks.told("alike 0 1;");
        meant(x, 5, 0, 0, 1);
        meant(x, 5, 2, 3, 4);
        meant(x, 5, 8, 9, 4);
        meant(x, 3, 1, 3, 10);
        meant(x, 0, 8, 0, 1);
        meant(x, 10, 8, 1, 1);
        x.every(2);
        meant(x, 5, 2, 1, 2);
        KeySieves two = Checks.told("alike 0 1;alike 0 1;");
        meant(two, 5, 8, 9, 2);
        KeySieves later = Checks.told("alike 0 1;press 0 0 1;");
        later.ticks(3);
        meant(later, 5, 1, 0, 1);
        meant(later, 5, 2, 1, 4);
        meant(new KeySieves(), 5, 8, 0, 1);
        KeySieves goesDown = Checks.told("alike 0 1;press 1 0 1;press 2 0 0;");
        meant(goesDown, 1, 2, 91, 100);
        meant(goesDown, 1, 3, 23, 25);
        CHECKS.refused("mean(5, 8, 0)", two, () -> two.mean(5, 8, 0), 9);
    }
}
