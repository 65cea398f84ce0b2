import java.util.List;
import java.util.regex.Matcher;
import java.util.regex.Pattern;

/** Reads a text for Model: by a pattern for tokens, and a shape for each line. */
final class ModelText {
    private static final Pattern TOKEN = Pattern.compile(" *(?:([a-z]+)|([0-9]+)|(;)|(\\z))");
    private static final List<String> NAMES = List.of("alike", "scale", "shut", "both", "press", "every");
    private static final int[][][] BOUNDS = {
        {{0, 9}, {1, 9}}, {{0, 9}, {1, 9}}, {{0, 9}, {1, 9}}, {{0, 9}, {1, 9}}, {{0, 99}, {0, 3}, {0, 1}}, {{1, 4}}};

    private static final class Stop extends RuntimeException {
        private static final long serialVersionUID = 1;
    }

    final Model.World world = new Model.World();
    int lines;
    int fault;
    int place;
    private final String text;
    private int at;
    private int start;

    ModelText(String text) {
        this.text = text;
        try {
            readAll();
        } catch (Stop s) {
            lines = -1;
        }
    }

    private void stop(int what, int where) {
        fault = what;
        place = where;
        throw new Stop();
    }

    /** Empty at the end of the text. */
    private String token() {
        Matcher m = TOKEN.matcher(text).region(at, text.length());
        if (!m.lookingAt()) {
            int where = at;
            while (text.charAt(where) == ' ') {
                where++;
            }
            stop(1, where);
        }
        at = m.end();
        for (int g = 1; g <= 4; g++) {
            if (m.group(g) != null) {
                start = m.start(g);
                if (g == 2 && m.group(g).length() > 2) {
                    stop(1, start);
                }
                return m.group(g);
            }
        }
        throw new IllegalStateException();
    }

    private void readAll() {
        boolean everyTold = false;
        for (String name = token(); !name.isEmpty(); name = token()) {
            int line = NAMES.indexOf(name);
            if (line < 0) {
                stop(2, start);
            }
            if (line == 5 && everyTold) {
                stop(4, start);
            }
            if (line < 4 && world.keys.size() == 4 || line == 4 && world.presses.size() == 8) {
                stop(5, start);
            }
            int[] n = numbers(BOUNDS[line]);
            if (!token().equals(";")) {
                stop(2, start);
            }
            everyTold |= line == 5;
            put(line, n);
            lines++;
        }
        for (int[] p : world.presses) {
            if (p[1] >= world.keys.size()) {
                stop(6, text.length());
            }
        }
    }

    private int[] numbers(int[][] bounds) {
        int[] n = new int[bounds.length];
        for (int i = 0; i < n.length; i++) {
            String t = token();
            if (t.isEmpty() || !Character.isDigit(t.charAt(0))) {
                stop(2, start);
            }
            n[i] = Integer.parseInt(t);
            if (n[i] < bounds[i][0] || n[i] > bounds[i][1]) {
                stop(3, start);
            }
        }
        return n;
    }

    private void put(int line, int[] n) {
        if (line == 4) {
            world.presses.add(n);
        } else if (line == 5) {
            world.every = n[0];
        } else {
            Model.Sieve s = new Model.Sieve();
            s.kind = line;
            s.bounce = n[0];
            s.number = n[1];
            world.keys.add(s);
        }
    }
}
