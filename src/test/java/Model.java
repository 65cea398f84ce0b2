import java.math.BigInteger;
import java.util.ArrayList;
import java.util.List;

/** The document once more, as plainly as its words allow and without regard to cost: what ModelTest compares with. */
final class Model {
    static final int BAD = -1, STATE = -2, FULL = -3, NONE = -4;

    static final class Sieve {
        int bounce, kind, number, says, sum, rest, strokes;

        Sieve copy() {
            Sieve s = new Sieve();
            s.bounce = bounce;
            s.kind = kind;
            s.number = number;
            s.says = says;
            s.sum = sum;
            s.rest = rest;
            s.strokes = strokes;
            return s;
        }

        void alter(int what, int v) {
            if (what == 0) {
                bounce = v;
            } else if (what == 1) {
                kind = v;
            } else {
                number = v;
                if (sum > number) {
                    sum = number;
                }
            }
        }

        /** 1: a stroke, -1: it comes to say 0, 0: neither. */
        int look(int contact) {
            int said = says;
            if (rest > 0) {
                rest = rest - 1;
                return 0;
            }
            if (kind == 1) {
                sum = Math.max(0, Math.min(number, sum + (contact == 1 ? 1 : -1)));
                says = sum == number ? 1 : sum == 0 ? 0 : says;
            } else if (contact == says) {
                sum = 0;
            } else {
                sum = sum + 1;
                int[] wants = {number, 0, 1, number};
                int[] shuts = {0, 0, number, number};
                if (sum >= wants[kind]) {
                    says = contact;
                    sum = 0;
                    rest = shuts[kind];
                }
            }
            if (said == 0 && says == 1) {
                strokes = Math.min(999, strokes + 1);
            }
            return says - said;
        }
    }

    static final class World {
        List<Sieve> keys = new ArrayList<>();
        List<int[]> presses = new ArrayList<>();
        List<int[]> seen = new ArrayList<>();
        int every = 1;
        int tick = 0;

        World copy() {
            World w = new World();
            for (Sieve s : keys) {
                w.keys.add(s.copy());
            }
            w.presses.addAll(presses);
            w.seen.addAll(seen);
            w.every = every;
            w.tick = tick;
            return w;
        }

        int contact(int k, int t) {
            for (int back = t; back >= 0; back--) {
                for (int i = presses.size() - 1; i >= 0; i--) {
                    int[] p = presses.get(i);
                    if (p[1] == k && p[0] == back) {
                        int gone = t - back;
                        return gone % 2 == 1 && gone < keys.get(k).bounce ? 1 - p[2] : p[2];
                    }
                }
            }
            return 0;
        }

        /** Changes of each key in a tick with these contacts. */
        int[] tick(int[] contacts) {
            int[] changes = new int[keys.size()];
            for (int k = 0; k < keys.size(); k++) {
                changes[k] = tick % every == 0 ? keys.get(k).look(contacts[k]) : 0;
            }
            tick++;
            return changes;
        }

        int[] contacts() {
            int[] c = new int[keys.size()];
            for (int k = 0; k < c.length; k++) {
                c[k] = contact(k, tick);
            }
            return c;
        }

        int strokesOf(int k, int n) {
            int strokes = 0;
            for (int i = 0; i < n; i++) {
                strokes += Math.max(0, tick(contacts())[k]);
            }
            return strokes;
        }

        int strokes(int n) {
            int strokes = 0;
            for (int i = 0; i < n; i++) {
                for (int change : tick(contacts())) {
                    strokes += change == 1 ? 1 : 0;
                }
            }
            return strokes;
        }

        int says() {
            int bits = 0;
            for (int k = 0; k < keys.size(); k++) {
                bits += keys.get(k).says << k;
            }
            return bits;
        }

        int due(int n) {
            int due = 0;
            for (int t = tick; t < tick + n; t++) {
                for (int[] p : presses) {
                    due += p[0] == t && p[2] == 1 ? 1 : 0;
                }
            }
            return due;
        }

        boolean asSeen() {
            for (int[] s : seen) {
                World w = copy();
                w.strokes(s[0]);
                if (w.keys.get(s[1]).says != s[2]) {
                    return false;
                }
            }
            return true;
        }
    }

    World w = new World();
    StringBuilder tape = new StringBuilder();
    int fault = 0;
    int torn = 0;
    World[] images = new World[2];
    Object[] sheets = new Object[4];

    private static boolean in(int v, int least, int most) {
        return least <= v && v <= most;
    }

    private boolean hasKey(int k) {
        return in(k, 0, w.keys.size() - 1);
    }

    int feed(int c) {
        if (!in(c, 0, 127)) {
            return BAD;
        }
        if (tape.length() == 160) {
            return FULL;
        }
        tape.append((char) c);
        return tape.length();
    }

    int end(int n) {
        if (!in(n, 0, tape.length())) {
            return BAD;
        }
        int had = tape.length();
        tape.setLength(n);
        return had;
    }

    int text() {
        ModelText t = new ModelText(tape.toString());
        tape.setLength(0);
        fault = t.fault;
        if (fault != 0) {
            return -10 - t.place;
        }
        w = t.world;
        images = new World[2];
        return t.lines;
    }

    int fault() {
        return fault;
    }

    int rule(int what) {
        int bits = 0;
        int strokes = 0;
        for (int k = 0; k < w.keys.size(); k++) {
            bits += w.contact(k, w.tick) << k;
            strokes += w.keys.get(k).strokes;
        }
        int[] all = {w.keys.size(), w.presses.size(), w.tick, w.every, w.says(), bits, strokes};
        return in(what, 0, 6) ? all[what] : BAD;
    }

    int key(int k, int what) {
        if (!hasKey(k) || !in(what, 0, 6)) {
            return BAD;
        }
        Sieve s = w.keys.get(k);
        return new int[] {s.bounce, s.kind, s.number, s.says, s.sum, s.rest, s.strokes}[what];
    }

    int press(int i, int what) {
        return in(i, 0, w.presses.size() - 1) && in(what, 0, 2) ? w.presses.get(i)[what] : BAD;
    }

    int contact(int k, int t) {
        return hasKey(k) && in(t, 0, 999) ? w.contact(k, t) : BAD;
    }

    int alter(int k, int what, int v) {
        int[][] bounds = {{0, 9}, {0, 3}, {1, 9}};
        if (!hasKey(k) || !in(what, 0, 2) || !in(v, bounds[what][0], bounds[what][1])) {
            return BAD;
        }
        int was = key(k, what);
        w.keys.get(k).alter(what, v);
        return was;
    }

    int every(int v) {
        if (!in(v, 1, 4)) {
            return BAD;
        }
        int was = w.every;
        w.every = v;
        return was;
    }

    int strike(int t, int k, int state) {
        if (!in(t, 0, 99) || !hasKey(k) || !in(state, 0, 1)) {
            return BAD;
        }
        if (w.presses.size() == 8) {
            return FULL;
        }
        w.presses.add(new int[] {t, k, state});
        return w.presses.size();
    }

    int drop(int n) {
        return cut(w.presses, n);
    }

    private static int cut(List<int[]> list, int n) {
        int had = list.size();
        if (!in(n, 0, had)) {
            return BAD;
        }
        list.subList(n, had).clear();
        return had;
    }

    int ticks(int n) {
        if (!in(n, 0, 100)) {
            return BAD;
        }
        return w.tick + n >= 1000 ? FULL : w.strokes(n);
    }

    int runs(int n, int what) {
        if (!in(n, 0, 200) || !in(what, 0, 3)) {
            return BAD;
        }
        World x = w.copy();
        int strokes = 0;
        int changes = 0;
        int wrong = 0;
        for (int i = 0; i < n; i++) {
            int[] contacts = x.contacts();
            for (int change : x.tick(contacts)) {
                strokes += Math.max(0, change);
                changes += Math.abs(change);
            }
            boolean any = false;
            for (int k = 0; k < contacts.length; k++) {
                any |= contacts[k] != x.keys.get(k).says;
            }
            wrong += any ? 1 : 0;
        }
        return new int[] {strokes, x.says(), changes, wrong}[what];
    }

    int ahead(int k, int n, int what) {
        if (!hasKey(k) || !in(n, 0, 200) || !in(what, 0, 1)) {
            return BAD;
        }
        World x = w.copy();
        int strokes = x.strokesOf(k, n);
        return what == 0 ? x.keys.get(k).says : strokes;
    }

    int when(int k, int v) {
        if (!hasKey(k) || !in(v, 0, 1)) {
            return BAD;
        }
        for (int n = 0; n <= 200; n++) {
            if (ahead(k, n, 0) == v) {
                return n;
            }
        }
        return NONE;
    }

    int due(int n) {
        return in(n, 0, 200) ? w.due(n) : BAD;
    }

    private World altered(int k, int what, int v) {
        World x = w.copy();
        x.keys.get(k).alter(what, v);
        return x;
    }

    int need(int k, int n, int m) {
        if (!hasKey(k) || !in(n, 0, 200) || !in(m, 0, 20)) {
            return BAD;
        }
        for (int number = 1; number <= 9; number++) {
            if (altered(k, 2, number).strokesOf(k, n) == m) {
                return number;
            }
        }
        return NONE;
    }

    int bear(int k, int n, int m) {
        if (!hasKey(k) || !in(n, 0, 200) || !in(m, 0, 20)) {
            return BAD;
        }
        int greatest = NONE;
        for (int bounce = 0; bounce <= 9; bounce++) {
            if (altered(k, 0, bounce).strokesOf(k, n) == m) {
                greatest = bounce;
            }
        }
        return greatest;
    }

    int kind(int k, int n, int what) {
        if (!hasKey(k) || !in(n, 0, 200) || !in(what, 0, 1)) {
            return BAD;
        }
        int[] off = new int[4];
        int best = 0;
        for (int kind = 0; kind < 4; kind++) {
            off[kind] = Math.abs(altered(k, 1, kind).strokes(n) - w.due(n));
            best = off[kind] < off[best] ? kind : best;
        }
        return what == 0 ? best : off[best];
    }

    int slow(int n, int what) {
        if (!in(n, 0, 200) || !in(what, 0, 1)) {
            return BAD;
        }
        int[] off = new int[5];
        int best = 1;
        for (int every = 1; every <= 4; every++) {
            World x = w.copy();
            x.every = every;
            off[every] = Math.abs(x.strokes(n) - w.due(n));
            best = off[every] <= off[best] ? every : best;
        }
        return what == 0 ? best : off[best];
    }

    int lose(int n, int what) {
        if (!in(n, 0, 200) || !in(what, 0, 1)) {
            return BAD;
        }
        int most = w.copy().strokes(n);
        int which = NONE;
        for (int i = 0; i < w.presses.size(); i++) {
            World x = w.copy();
            x.presses.remove(i);
            int strokes = x.strokes(n);
            if (strokes > most) {
                most = strokes;
                which = i;
            }
        }
        return which == NONE || what == 0 ? which : most;
    }

    /** The sum of weights times strokes of all (k below 0), or times what key k says in the end, by 10 to the n. */
    private static BigInteger noisy(World x, int v, int k, int n) {
        if (n == 0) {
            return k < 0 ? BigInteger.ZERO : BigInteger.valueOf(x.keys.get(k).says);
        }
        BigInteger sum = BigInteger.ZERO;
        for (int flip = 0; flip <= 1; flip++) {
            World y = x.copy();
            int[] contacts = y.contacts();
            for (int i = 0; i < contacts.length; i++) {
                contacts[i] = contacts[i] ^ flip;
            }
            int strokes = 0;
            for (int change : y.tick(contacts)) {
                strokes += Math.max(0, change);
            }
            BigInteger here = noisy(y, v, k, n - 1);
            if (k < 0) {
                here = here.add(BigInteger.TEN.pow(n - 1).multiply(BigInteger.valueOf(strokes)));
            }
            sum = sum.add(here.multiply(BigInteger.valueOf(flip == 1 ? v : 10 - v)));
        }
        return sum;
    }

    private static long part(BigInteger over, BigInteger under, int what) {
        BigInteger divisor = over.gcd(under);
        return (what == 0 ? over : under).divide(divisor).longValueExact();
    }

    long luck(int v, int k, int n, int what) {
        if (!in(v, 0, 10) || !hasKey(k) || !in(n, 0, 8) || !in(what, 0, 1)) {
            return BAD;
        }
        return part(noisy(w, v, k, n), BigInteger.TEN.pow(n), what);
    }

    long mean(int v, int n, int what) {
        if (!in(v, 0, 10) || !in(n, 0, 8) || !in(what, 0, 1)) {
            return BAD;
        }
        return part(noisy(w, v, -1, n), BigInteger.TEN.pow(n), what);
    }

    int see(int n, int k, int v) {
        if (!in(n, 0, 40) || !hasKey(k) || !in(v, 0, 1)) {
            return BAD;
        }
        if (w.seen.size() == 6) {
            return FULL;
        }
        w.seen.add(new int[] {n, k, v});
        return w.seen.size();
    }

    int forget(int n) {
        return cut(w.seen, n);
    }

    private int fit(int k, int what, int least, int most) {
        if (!hasKey(k)) {
            return BAD;
        }
        int bits = 0;
        for (int v = least; v <= most; v++) {
            bits += altered(k, what, v).asSeen() ? 1 << v : 0;
        }
        return bits;
    }

    int kinds(int k) {
        return fit(k, 1, 0, 3);
    }

    int numbers(int k) {
        return fit(k, 2, 1, 9);
    }

    int bounces(int k) {
        return fit(k, 0, 0, 9);
    }

    int ask(int k, int what) {
        if (!hasKey(k) || !in(what, 0, 1)) {
            return BAD;
        }
        int candidates = numbers(k);
        int best = NONE;
        int fewest = Integer.bitCount(candidates);
        for (int n = 0; n <= 40; n++) {
            int[] left = new int[2];
            for (int number = 1; number <= 9; number++) {
                if ((candidates & 1 << number) != 0) {
                    World x = altered(k, 2, number);
                    x.strokes(n);
                    left[x.keys.get(k).says]++;
                }
            }
            if (Math.max(left[0], left[1]) < fewest) {
                fewest = Math.max(left[0], left[1]);
                best = n;
            }
        }
        return best == NONE || what == 0 ? best : fewest;
    }

    int drift(int seed, int n, int what) {
        if (!in(n, 1, 200) || !in(what, 0, 1)) {
            return BAD;
        }
        if (w.keys.isEmpty()) {
            return STATE;
        }
        World x = w.copy();
        BigInteger drawn = BigInteger.valueOf(seed);
        int strokes = 0;
        for (int i = 0; i < n; i++) {
            drawn = drawn.multiply(BigInteger.valueOf(1103515245)).add(BigInteger.valueOf(12345));
            drawn = drawn.mod(BigInteger.TWO.pow(64));
            int[] contacts = new int[x.keys.size()];
            for (int k = 0; k < contacts.length; k++) {
                contacts[k] = drawn.testBit(16 + k) ? 1 : 0;
            }
            for (int change : x.tick(contacts)) {
                strokes += Math.max(0, change);
            }
        }
        return what == 0 ? strokes : x.says();
    }

    int keep(int k) {
        if (!in(k, 0, 1)) {
            return BAD;
        }
        int was = images[k] == null ? 0 : 1;
        images[k] = w.copy();
        return was;
    }

    int back(int k) {
        if (!in(k, 0, 1)) {
            return BAD;
        }
        if (images[k] == null) {
            return STATE;
        }
        w = images[k].copy();
        return w.tick;
    }

    int sheet(int k, int lane, int n) {
        if (!in(k, 0, 3) || !in(lane, 0, 2) || n > 40) {
            return BAD;
        }
        try {
            sheets[k] = lane == 0 ? new byte[n] : lane == 1 ? new short[n] : new int[n];
        } catch (NegativeArraySizeException e) {
            return -14;
        }
        return 1;
    }

    int lay(int k, int i, int v) {
        if (!in(k, 0, 3)) {
            return BAD;
        }
        try {
            if (sheets[k] instanceof byte[] b) {
                b[i] = (byte) v;
            } else if (sheets[k] instanceof short[] s) {
                s[i] = (short) v;
            } else {
                ((int[]) sheets[k])[i] = v;
            }
        } catch (NullPointerException e) {
            return -11;
        } catch (ArrayIndexOutOfBoundsException e) {
            return -12;
        }
        return 1;
    }

    private static int[] three(Object row, int lane, int at) {
        int[] cells = new int[3];
        for (int i = 0; i < 3; i++) {
            cells[i] = lane == 0 ? ((byte[]) row)[at + i] : lane == 1 ? ((short[]) row)[at + i] : ((int[]) row)[at + i];
        }
        return cells;
    }

    int read(int k, int lane, int f, int n) {
        if (!in(k, 0, 3) || !in(lane, 0, 2) || !in(n, 0, 13)) {
            return BAD;
        }
        List<int[]> before = new ArrayList<>(w.presses);
        int came = 0;
        int found = 0;
        try {
            for (int i = 0; i < n; i++) {
                int[] p = three(sheets[k], lane, f + 3 * i);
                if (strike(p[0], p[1], p[2]) < 0) {
                    w.presses = before;
                    return -20 - i;
                }
                came++;
            }
        } catch (NullPointerException e) {
            found = 1;
        } catch (ArrayIndexOutOfBoundsException e) {
            found = 2;
        } catch (ClassCastException e) {
            found = 3;
        }
        torn = found;
        return came;
    }

    int torn() {
        return torn;
    }

    int count(int what) {
        int bounces = 0;
        int numbers = 0;
        for (Sieve s : w.keys) {
            bounces += s.bounce;
            numbers += s.number;
        }
        int cells = sheets[0] == null ? NONE : java.lang.reflect.Array.getLength(sheets[0]);
        int kept = (images[0] == null ? 0 : 1) + (images[1] == null ? 0 : 1);
        int[] all = {w.seen.size(), kept, tape.length(), cells, bounces, numbers};
        return in(what, 0, 5) ? all[what] : BAD;
    }
}
