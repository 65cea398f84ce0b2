import java.util.function.LongSupplier;

/** What the tests share: compares answers, counts the wrong ones, tells texts letter by letter. */
final class Checks {
    private int wrong;
    private int seen;

    void due(String call, long got, long want) {
        seen++;
        if (got != want) {
            wrong++;
            System.out.println(call + " answered " + got + ", due is " + want);
        }
    }

    void same(String call, String got, String want) {
        seen++;
        if (!got.equals(want)) {
            wrong++;
            System.out.println(call + ": got\n  " + got + "\n  due is\n  " + want);
        }
    }

    /** The call answers as is due, and all that can be asked without changing is as it was. */
    void refused(String call, KeySieves x, LongSupplier answer, long want) {
        String before = all(x);
        due(call, answer.getAsLong(), want);
        same(call + " changed something", all(x), before);
    }

    void finish() {
        System.out.println(wrong == 0 ? seen + " answers are as due" : wrong + " answers are not as due");
        if (wrong != 0) {
            System.exit(1);
        }
    }

    static void feed(KeySieves x, String text) {
        for (int i = 0; i < text.length(); i++) {
            x.feed(text.charAt(i));
        }
    }

    static int tell(KeySieves x, String text) {
        feed(x, text);
        return x.text();
    }

    static KeySieves told(String text) {
        KeySieves x = new KeySieves();
        int lines = tell(x, text);
        if (lines < 0) {
            throw new IllegalStateException(text + " is refused: " + lines);
        }
        return x;
    }

    /** All that can be asked without changing it. */
    static String all(KeySieves x) {
        StringBuilder s = new StringBuilder();
        s.append("fault ").append(x.fault()).append(" torn ").append(x.torn()).append(" rule");
        for (int i = 0; i <= 6; i++) {
            s.append(' ').append(x.rule(i));
        }
        s.append(" count");
        for (int i = 0; i <= 5; i++) {
            s.append(' ').append(x.count(i));
        }
        for (int k = 0; k < x.rule(0); k++) {
            s.append(" key");
            for (int i = 0; i <= 6; i++) {
                s.append(' ').append(x.key(k, i));
            }
            s.append(" fit ").append(x.kinds(k)).append(' ').append(x.numbers(k)).append(' ').append(x.bounces(k));
        }
        for (int p = 0; p < x.rule(1); p++) {
            s.append(" press");
            for (int i = 0; i <= 2; i++) {
                s.append(' ').append(x.press(p, i));
            }
        }
        return s.toString();
    }
}
