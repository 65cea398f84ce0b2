/**
 * Keys that bounce, each looked at every so many ticks through a sieve that says whether it is down.
 * The document DOC.md says, promise by promise, what each call answers.
 */
public final class KeySieves {
    public static final int BAD = -1, STATE = -2, FULL = -3, NONE = -4;

    private static final int MOST_BYTES = 160;
    private static final int MOST_KEYS = 4;
    private static final int MOST_PRESSES = 8;
    private static final int MOST_SEEN = 6;
    private static final int MOST_CELLS = 40;
    private static final int MOST_BOUNCE = 9;
    private static final int MOST_NUMBER = 9;
    private static final int MOST_EVERY = 4;
    private static final int MOST_STROKES = 999;
    private static final int LAST_TICK = 999;
    private static final int LAST_PRESS_TICK = 99;
    private static final int MOST_RUN = 200;
    private static final int MOST_SEEN_TICKS = 40;
    private static final int MOST_NOISY_TICKS = 8;
    private static final int ALL_ODDS = 10;
    /** More than any count of strokes can lie from what is due. */
    private static final int FAR_OFF = 1000000;
    private static final int IMAGES = 2;
    private static final int SHEETS = 4;

    private static final int ALIKE = 0, SCALE = 1, SHUT = 2, BOTH = 3;
    private static final int PRESS_LINE = 4, EVERY_LINE = 5, LINES = 6;
    private static final int PART_BOUNCE = 0, PART_KIND = 1, PART_NUMBER = 2;
    private static final int NULL_FAULT = 1, INDEX_FAULT = 2, CAST_FAULT = 3, SIZE_FAULT = 4;

    private final byte[] tape;
    private int tapeLength;
    private final Board now;
    /** What calls that only ask may spoil: made once, since what a run makes is counted. */
    private final Board trial;
    private final Board[] images;
    private final boolean[] kept;
    private final Sheet[] sheets;
    private final TextReader reader;
    private int textFault;
    private int readFault;
    private final int[] quietContacts;
    private final int[] saidOne;

    public KeySieves() {
        tape = new byte[MOST_BYTES];
        now = new Board();
        trial = new Board();
        images = new Board[IMAGES];
        kept = new boolean[IMAGES];
        for (int i = 0; i < IMAGES; i++) {
            images[i] = new Board();
        }
        sheets = new Sheet[SHEETS];
        for (int i = 0; i < SHEETS; i++) {
            sheets[i] = new Sheet();
        }
        reader = new TextReader(tape, trial);
        quietContacts = new int[MOST_NOISY_TICKS];
        saidOne = new int[MOST_SEEN_TICKS + 1];
    }

    // ---- the text

    public int feed(int c) {
        if (!within(c, 0, 127)) {
            return BAD;
        }
        if (tapeLength >= MOST_BYTES) {
            return FULL;
        }
        tape[tapeLength] = (byte) c;
        tapeLength++;
        return tapeLength;
    }

    public int end(int n) {
        if (!within(n, 0, tapeLength)) {
            return BAD;
        }
        int had = tapeLength;
        tapeLength = n;
        return had;
    }

    public int text() {
        int lines = reader.readLines(tapeLength);
        tapeLength = 0;
        textFault = reader.fault;
        if (textFault != 0) {
            return -10 - reader.faultPlace;
        }
        now.copyFrom(trial);
        for (int i = 0; i < IMAGES; i++) {
            kept[i] = false;
        }
        return lines;
    }

    public int fault() {
        return textFault;
    }

    public int rule(int what) {
        switch (what) {
            case 0: return now.keyCount;
            case 1: return now.pressCount;
            case 2: return now.tick;
            case 3: return now.every;
            case 4: return now.saysBits();
            case 5: return now.contactBits();
            case 6: return now.strokesOfAll();
            default: return BAD;
        }
    }

    public int key(int k, int what) {
        if (!now.hasKey(k)) {
            return BAD;
        }
        Key asked = now.keys[k];
        switch (what) {
            case 0: case 1: case 2: return asked.part(what);
            case 3: return asked.says;
            case 4: return asked.sum;
            case 5: return asked.rest;
            case 6: return asked.strokes;
            default: return BAD;
        }
    }

    public int press(int i, int what) {
        if (!within(i, 0, now.pressCount - 1)) {
            return BAD;
        }
        switch (what) {
            case 0: return now.pressTick[i];
            case 1: return now.pressKey[i];
            case 2: return now.pressState[i];
            default: return BAD;
        }
    }

    public int contact(int k, int t) {
        if (!now.hasKey(k) || !within(t, 0, LAST_TICK)) {
            return BAD;
        }
        return now.contactAt(k, t);
    }

    // ---- what is changed

    public int alter(int k, int what, int v) {
        if (!now.hasKey(k) || !Key.mayBe(what, v)) {
            return BAD;
        }
        int was = now.keys[k].part(what);
        now.keys[k].become(what, v);
        return was;
    }

    public int every(int v) {
        if (!within(v, 1, MOST_EVERY)) {
            return BAD;
        }
        int was = now.every;
        now.every = v;
        return was;
    }

    public int strike(int t, int k, int state) {
        return putPress(t, k, state);
    }

    public int drop(int n) {
        if (!within(n, 0, now.pressCount)) {
            return BAD;
        }
        int had = now.pressCount;
        now.pressCount = n;
        return had;
    }

    private int putPress(int t, int k, int state) {
        if (!within(t, 0, LAST_PRESS_TICK) || !now.hasKey(k) || !within(state, 0, 1)) {
            return BAD;
        }
        if (now.pressCount >= MOST_PRESSES) {
            return FULL;
        }
        now.addPress(t, k, state);
        return now.pressCount;
    }

    // ---- ticks

    public int ticks(int n) {
        if (!within(n, 0, 100)) {
            return BAD;
        }
        if (now.tick + n > LAST_TICK) {
            return FULL;
        }
        now.startRun();
        now.advance(n);
        return now.struckInRun();
    }

    public int runs(int n, int what) {
        if (!isRun(n) || !within(what, 0, 3)) {
            return BAD;
        }
        Board tried = copyToTry();
        if (what == 3) {
            return tried.advanceCountingWrong(n);
        }
        tried.advance(n);
        switch (what) {
            case 0: return tried.struckInRun();
            case 1: return tried.saysBits();
            default: return tried.changedInRun();
        }
    }

    public int ahead(int k, int n, int what) {
        if (!now.hasKey(k) || !isRun(n) || !within(what, 0, 1)) {
            return BAD;
        }
        Board tried = copyToTry();
        tried.advance(n);
        return what == 0 ? tried.keys[k].says : tried.keys[k].struck;
    }

    public int when(int k, int v) {
        if (!now.hasKey(k) || !within(v, 0, 1)) {
            return BAD;
        }
        Board tried = copyToTry();
        for (int n = 0; n <= MOST_RUN; n++) {
            if (tried.keys[k].says == v) {
                return n;
            }
            tried.advance(1);
        }
        return NONE;
    }

    public int due(int n) {
        return isRun(n) ? now.dueIn(n) : BAD;
    }

    // ---- what is best

    public int need(int k, int n, int m) {
        if (!now.hasKey(k) || !isRun(n) || !within(m, 0, 20)) {
            return BAD;
        }
        for (int number = 1; number <= MOST_NUMBER; number++) {
            if (strokesOfOne(k, PART_NUMBER, number, n) == m) {
                return number;
            }
        }
        return NONE;
    }

    public int bear(int k, int n, int m) {
        if (!now.hasKey(k) || !isRun(n) || !within(m, 0, 20)) {
            return BAD;
        }
        for (int bounce = MOST_BOUNCE; bounce >= 0; bounce--) {
            if (strokesOfOne(k, PART_BOUNCE, bounce, n) == m) {
                return bounce;
            }
        }
        return NONE;
    }

    public int kind(int k, int n, int what) {
        if (!now.hasKey(k) || !isRun(n) || !within(what, 0, 1)) {
            return BAD;
        }
        int best = ALIKE;
        int least = FAR_OFF;
        for (int tried = ALIKE; tried <= BOTH; tried++) {
            int off = missOf(copyAltered(k, PART_KIND, tried), n);
            if (off < least) {
                least = off;
                best = tried;
            }
        }
        return what == 0 ? best : least;
    }

    public int slow(int n, int what) {
        if (!isRun(n) || !within(what, 0, 1)) {
            return BAD;
        }
        int best = MOST_EVERY;
        int least = FAR_OFF;
        for (int tried = MOST_EVERY; tried >= 1; tried--) {
            Board board = copyToTry();
            board.every = tried;
            int off = missOf(board, n);
            if (off < least) {
                least = off;
                best = tried;
            }
        }
        return what == 0 ? best : least;
    }

    public int lose(int n, int what) {
        if (!isRun(n) || !within(what, 0, 1)) {
            return BAD;
        }
        int best = NONE;
        int most = strokesIn(copyToTry(), n);
        for (int i = 0; i < now.pressCount; i++) {
            Board board = copyToTry();
            board.removePress(i);
            int strokes = strokesIn(board, n);
            if (strokes > most) {
                most = strokes;
                best = i;
            }
        }
        if (best == NONE) {
            return NONE;
        }
        return what == 0 ? best : most;
    }

    /** How far the strokes of all lie from what is due. */
    private static int missOf(Board board, int n) {
        int wanted = board.dueIn(n);
        return Math.abs(strokesIn(board, n) - wanted);
    }

    private static int strokesIn(Board board, int n) {
        board.advance(n);
        return board.struckInRun();
    }

    private int strokesOfOne(int k, int part, int v, int n) {
        Board board = copyAltered(k, part, v);
        board.advance(n);
        return board.keys[k].struck;
    }

    // ---- noise

    public long luck(int v, int k, int n, int what) {
        if (!now.hasKey(k) || !isNoise(v, n) || !within(what, 0, 1)) {
            return BAD;
        }
        long ways = 0;
        listenQuietly(n);
        for (int noise = 0; noise < (1 << n); noise++) {
            long weight = weightOf(noise, v, n);
            if (weight > 0 && runNoisily(noise, n).keys[k].says == 1) {
                ways += weight;
            }
        }
        return partOfFraction(ways, power(ALL_ODDS, n), what);
    }

    public long mean(int v, int n, int what) {
        if (!isNoise(v, n) || !within(what, 0, 1)) {
            return BAD;
        }
        long strokes = 0;
        listenQuietly(n);
        for (int noise = 0; noise < (1 << n); noise++) {
            long weight = weightOf(noise, v, n);
            if (weight > 0) {
                strokes += weight * runNoisily(noise, n).struckInRun();
            }
        }
        return partOfFraction(strokes, power(ALL_ODDS, n), what);
    }

    private static boolean isNoise(int v, int n) {
        return within(v, 0, ALL_ODDS) && within(n, 0, MOST_NOISY_TICKS);
    }

    /** Contacts do not hang on noise in other ticks, so they are got once for all noises. */
    private void listenQuietly(int n) {
        Board board = copyToTry();
        for (int i = 0; i < n && i < MOST_NOISY_TICKS; i++) {
            quietContacts[i] = board.contactBits();
            board.advance(1);
        }
    }

    /** Bit i of noise: whether there is noise in the i-th tick. */
    private Board runNoisily(int noise, int n) {
        trial.copySievesFrom(now);
        trial.startRun();
        for (int i = 0; i < n && i < MOST_NOISY_TICKS; i++) {
            boolean noisy = (noise >> i & 1) == 1;
            trial.tickWith(noisy ? ~quietContacts[i] : quietContacts[i]);
        }
        return trial;
    }

    private static long weightOf(int noise, int v, int n) {
        int noisy = Integer.bitCount(noise);
        return power(v, noisy) * power(ALL_ODDS - v, n - noisy);
    }

    private static long power(int base, int exponent) {
        long product = 1;
        for (int i = 0; i < exponent; i++) {
            product *= base;
        }
        return product;
    }

    private static long partOfFraction(long numerator, long denominator, int what) {
        long divisor = commonDivisor(numerator, denominator);
        long part = what == 0 ? numerator : denominator;
        return divisor > 0 ? part / divisor : part;
    }

    private static long commonDivisor(long a, long b) {
        long greater = a;
        long less = b;
        // Euclid needs fewer than 100 steps for any two longs.
        for (int i = 0; i < 100 && less != 0; i++) {
            long left = greater % less;
            greater = less;
            less = left;
        }
        return greater;
    }

    // ---- from what was said

    public int see(int n, int k, int v) {
        if (!within(n, 0, MOST_SEEN_TICKS) || !now.hasKey(k) || !within(v, 0, 1)) {
            return BAD;
        }
        if (now.seenCount >= MOST_SEEN) {
            return FULL;
        }
        now.addSeen(n, k, v);
        return now.seenCount;
    }

    public int forget(int n) {
        if (!within(n, 0, now.seenCount)) {
            return BAD;
        }
        int had = now.seenCount;
        now.seenCount = n;
        return had;
    }

    public int kinds(int k) {
        return now.hasKey(k) ? fitting(k, PART_KIND) : BAD;
    }

    public int numbers(int k) {
        return now.hasKey(k) ? fitting(k, PART_NUMBER) : BAD;
    }

    public int bounces(int k) {
        return now.hasKey(k) ? fitting(k, PART_BOUNCE) : BAD;
    }

    public int ask(int k, int what) {
        if (!now.hasKey(k) || !within(what, 0, 1)) {
            return BAD;
        }
        int left = fitting(k, PART_NUMBER);
        int candidates = Integer.bitCount(left);
        countSayers(k, left);
        int best = NONE;
        int fewest = candidates;
        for (int n = 0; n <= MOST_SEEN_TICKS; n++) {
            int worst = Math.max(saidOne[n], candidates - saidOne[n]);
            if (worst < fewest) {
                fewest = worst;
                best = n;
            }
        }
        if (best == NONE) {
            return NONE;
        }
        return what == 0 ? best : fewest;
    }

    /** The values of a part of a key (bits) by which all is as seen. */
    private int fitting(int k, int part) {
        int bits = 0;
        for (int v = 0; v <= 9; v++) {
            if (Key.mayBe(part, v) && copyAltered(k, part, v).isAsSeen()) {
                bits |= 1 << v;
            }
        }
        return bits;
    }

    /** By how many of these numbers the sieve says 1, behind each count of ticks. */
    private void countSayers(int k, int numberBits) {
        for (int n = 0; n <= MOST_SEEN_TICKS; n++) {
            saidOne[n] = 0;
        }
        for (int number = 1; number <= MOST_NUMBER; number++) {
            if ((numberBits >> number & 1) == 1) {
                addSayings(copyAltered(k, PART_NUMBER, number), k);
            }
        }
    }

    private void addSayings(Board board, int k) {
        for (int n = 0; n <= MOST_SEEN_TICKS; n++) {
            saidOne[n] += board.keys[k].says;
            board.advance(1);
        }
    }

    // ---- by a seed

    public int drift(int seed, int n, int what) {
        if (!within(n, 1, MOST_RUN) || !within(what, 0, 1)) {
            return BAD;
        }
        if (now.keyCount == 0) {
            return STATE;
        }
        Board board = copyToTry();
        int drawn = seed;
        for (int i = 0; i < n; i++) {
            drawn = drawn * 1103515245 + 12345;
            board.tickWith(drawn >> 16 & 0x7fff);
        }
        return what == 0 ? board.struckInRun() : board.saysBits();
    }

    // ---- images, sheets

    public int keep(int k) {
        if (!within(k, 0, IMAGES - 1)) {
            return BAD;
        }
        int was = kept[k] ? 1 : 0;
        images[k].copyFrom(now);
        kept[k] = true;
        return was;
    }

    public int back(int k) {
        if (!within(k, 0, IMAGES - 1)) {
            return BAD;
        }
        if (!kept[k]) {
            return STATE;
        }
        now.copyFrom(images[k]);
        return now.tick;
    }

    public int sheet(int k, int lane, int n) {
        if (!isSheet(k) || !Sheet.isLane(lane) || n > MOST_CELLS) {
            return BAD;
        }
        if (n < 0) {
            return -10 - SIZE_FAULT;
        }
        sheets[k].renew(lane, n);
        return 1;
    }

    public int lay(int k, int i, int v) {
        if (!isSheet(k)) {
            return BAD;
        }
        int found = sheets[k].faultAt(i);
        if (found != 0) {
            return -10 - found;
        }
        sheets[k].put(i, v);
        return 1;
    }

    public int read(int k, int lane, int f, int n) {
        if (!isSheet(k) || !Sheet.isLane(lane) || !within(n, 0, 13)) {
            return BAD;
        }
        Sheet from = sheets[k];
        int before = now.pressCount;
        int found = 0;
        int came = 0;
        for (int i = 0; i < n && found == 0; i++) {
            int at = f + 3 * i;
            found = from.faultOfThree(lane, at);
            if (found == 0) {
                if (putPress(from.get(at), from.get(at + 1), from.get(at + 2)) < 0) {
                    now.pressCount = before;
                    return -20 - i;
                }
                came++;
            }
        }
        readFault = found;
        return came;
    }

    public int torn() {
        return readFault;
    }

    public int count(int what) {
        switch (what) {
            case 0: return now.seenCount;
            case 1: return (kept[0] ? 1 : 0) + (kept[1] ? 1 : 0);
            case 2: return tapeLength;
            case 3: return sheets[0].isNothing() ? NONE : sheets[0].size;
            case 4: return now.sumOfPart(PART_BOUNCE);
            case 5: return now.sumOfPart(PART_NUMBER);
            default: return BAD;
        }
    }

    private static boolean isSheet(int k) {
        return within(k, 0, SHEETS - 1);
    }

    // ---- what many calls need

    private static boolean within(int v, int least, int most) {
        return v >= least && v <= most;
    }

    private static boolean isRun(int n) {
        return within(n, 0, MOST_RUN);
    }

    private Board copyToTry() {
        trial.copyFrom(now);
        trial.startRun();
        return trial;
    }

    private Board copyAltered(int k, int part, int v) {
        Board board = copyToTry();
        if (board.hasKey(k)) {
            board.keys[k].become(part, v);
        }
        return board;
    }

    /** A key with its sieve. */
    private static final class Key {
        int bounce;
        int kind;
        int number;
        int says;
        int sum;
        int rest;
        int strokes;
        /** Strokes and changes since the run began; strokes alone stop at 999. */
        int struck;
        int changed;

        void begin(int newKind, int newBounce, int newNumber) {
            bounce = newBounce;
            kind = newKind;
            number = newNumber;
            says = 0;
            sum = 0;
            rest = 0;
            strokes = 0;
            startRun();
        }

        void startRun() {
            struck = 0;
            changed = 0;
        }

        void copyFrom(Key other) {
            bounce = other.bounce;
            kind = other.kind;
            number = other.number;
            says = other.says;
            sum = other.sum;
            rest = other.rest;
            strokes = other.strokes;
        }

        static boolean mayBe(int part, int v) {
            switch (part) {
                case PART_BOUNCE: return within(v, 0, MOST_BOUNCE);
                case PART_KIND: return within(v, ALIKE, BOTH);
                case PART_NUMBER: return within(v, 1, MOST_NUMBER);
                default: return false;
            }
        }

        int part(int what) {
            switch (what) {
                case PART_BOUNCE: return bounce;
                case PART_KIND: return kind;
                default: return number;
            }
        }

        void become(int part, int v) {
            switch (part) {
                case PART_BOUNCE: bounce = v; break;
                case PART_KIND: kind = v; break;
                default: number = v; break;
            }
            sum = Math.min(sum, number);
        }

        void look(int seen) {
            if (rest > 0) {
                rest--;
            } else {
                say(kind == SCALE ? weigh(seen) : compare(seen));
            }
        }

        private int weigh(int seen) {
            sum = seen == 1 ? Math.min(sum + 1, number) : Math.max(sum - 1, 0);
            if (sum == number) {
                return 1;
            }
            return sum == 0 ? 0 : says;
        }

        private int compare(int seen) {
            if (seen == says) {
                sum = 0;
                return says;
            }
            sum++;
            int wants = kind == SHUT ? 1 : number;
            if (sum < wants) {
                return says;
            }
            sum = 0;
            rest = kind == ALIKE ? 0 : number;
            return seen;
        }

        private void say(int v) {
            if (v == says) {
                return;
            }
            says = v;
            changed++;
            if (v == 1) {
                struck++;
                strokes = Math.min(strokes + 1, MOST_STROKES);
            }
        }
    }

    /** All that an image keeps. */
    private static final class Board {
        final Key[] keys;
        int keyCount;
        final int[] pressTick;
        final int[] pressKey;
        final int[] pressState;
        int pressCount;
        int every;
        int tick;
        final int[] seenTicks;
        final int[] seenKey;
        final int[] seenSays;
        int seenCount;

        Board() {
            keys = new Key[MOST_KEYS];
            for (int k = 0; k < MOST_KEYS; k++) {
                keys[k] = new Key();
            }
            pressTick = new int[MOST_PRESSES];
            pressKey = new int[MOST_PRESSES];
            pressState = new int[MOST_PRESSES];
            seenTicks = new int[MOST_SEEN];
            seenKey = new int[MOST_SEEN];
            seenSays = new int[MOST_SEEN];
            every = 1;
        }

        void clear() {
            keyCount = 0;
            pressCount = 0;
            every = 1;
            tick = 0;
            seenCount = 0;
        }

        void copyFrom(Board other) {
            copySievesFrom(other);
            for (int i = 0; i < MOST_PRESSES; i++) {
                pressTick[i] = other.pressTick[i];
                pressKey[i] = other.pressKey[i];
                pressState[i] = other.pressState[i];
            }
            pressCount = other.pressCount;
            for (int i = 0; i < MOST_SEEN; i++) {
                seenTicks[i] = other.seenTicks[i];
                seenKey[i] = other.seenKey[i];
                seenSays[i] = other.seenSays[i];
            }
            seenCount = other.seenCount;
        }

        /** All but presses and what was seen, which ticks never change. */
        void copySievesFrom(Board other) {
            for (int k = 0; k < MOST_KEYS; k++) {
                keys[k].copyFrom(other.keys[k]);
            }
            keyCount = other.keyCount;
            every = other.every;
            tick = other.tick;
        }

        boolean hasKey(int k) {
            return within(k, 0, keyCount - 1);
        }

        void addKey(int kind, int bounce, int number) {
            if (keyCount < MOST_KEYS) {
                keys[keyCount].begin(kind, bounce, number);
                keyCount++;
            }
        }

        void addPress(int t, int k, int state) {
            if (pressCount < MOST_PRESSES) {
                pressTick[pressCount] = t;
                pressKey[pressCount] = k;
                pressState[pressCount] = state;
                pressCount++;
            }
        }

        void removePress(int i) {
            for (int to = i; to + 1 < pressCount; to++) {
                pressTick[to] = pressTick[to + 1];
                pressKey[to] = pressKey[to + 1];
                pressState[to] = pressState[to + 1];
            }
            pressCount--;
        }

        void addSeen(int n, int k, int v) {
            if (seenCount < MOST_SEEN) {
                seenTicks[seenCount] = n;
                seenKey[seenCount] = k;
                seenSays[seenCount] = v;
                seenCount++;
            }
        }

        int contactAt(int k, int t) {
            int latest = latestPress(k, t);
            if (latest < 0) {
                return 0;
            }
            int gone = t - pressTick[latest];
            boolean bounced = gone < keys[k].bounce && (gone & 1) == 1;
            return bounced ? 1 - pressState[latest] : pressState[latest];
        }

        private int latestPress(int k, int t) {
            int latest = NONE;
            for (int i = 0; i < pressCount; i++) {
                boolean counts = pressKey[i] == k && pressTick[i] <= t;
                if (counts && (latest < 0 || pressTick[i] >= pressTick[latest])) {
                    latest = i;
                }
            }
            return latest;
        }

        int contactBits() {
            int bits = 0;
            for (int k = 0; k < keyCount; k++) {
                bits |= contactAt(k, tick) << k;
            }
            return bits;
        }

        int saysBits() {
            int bits = 0;
            for (int k = 0; k < keyCount; k++) {
                bits |= keys[k].says << k;
            }
            return bits;
        }

        int strokesOfAll() {
            int strokes = 0;
            for (int k = 0; k < keyCount; k++) {
                strokes += keys[k].strokes;
            }
            return strokes;
        }

        int sumOfPart(int part) {
            int sum = 0;
            for (int k = 0; k < keyCount; k++) {
                sum += keys[k].part(part);
            }
            return sum;
        }

        void startRun() {
            for (int k = 0; k < keyCount; k++) {
                keys[k].startRun();
            }
        }

        int struckInRun() {
            int struck = 0;
            for (int k = 0; k < keyCount; k++) {
                struck += keys[k].struck;
            }
            return struck;
        }

        int changedInRun() {
            int changed = 0;
            for (int k = 0; k < keyCount; k++) {
                changed += keys[k].changed;
            }
            return changed;
        }

        /** A tick in which the contact of key k is bit k, whatever the presses tell. */
        void tickWith(int contacts) {
            if (every > 0 && tick % every == 0) {
                for (int k = 0; k < keyCount; k++) {
                    keys[k].look(contacts >> k & 1);
                }
            }
            tick++;
        }

        void advance(int n) {
            for (int i = 0; i < n; i++) {
                tickWith(contactBits());
            }
        }

        /** On how many of n ticks a contact is other than what its sieve says behind the tick. */
        int advanceCountingWrong(int n) {
            int wrong = 0;
            for (int i = 0; i < n; i++) {
                int contacts = contactBits();
                tickWith(contacts);
                if (contacts != saysBits()) {
                    wrong++;
                }
            }
            return wrong;
        }

        int dueIn(int n) {
            int presses = 0;
            for (int i = 0; i < pressCount; i++) {
                if (pressState[i] == 1 && within(pressTick[i], tick, tick + n - 1)) {
                    presses++;
                }
            }
            return presses;
        }

        /** Runs on to find out, so it is asked of a board that may be spoiled. */
        boolean isAsSeen() {
            int last = lastSeenTicks();
            for (int n = 0; n <= last; n++) {
                if (!saysAsSeenBehind(n)) {
                    return false;
                }
                advance(1);
            }
            return true;
        }

        private int lastSeenTicks() {
            int last = NONE;
            for (int i = 0; i < seenCount; i++) {
                last = Math.max(last, seenTicks[i]);
            }
            return last;
        }

        private boolean saysAsSeenBehind(int n) {
            for (int i = 0; i < seenCount; i++) {
                int k = seenKey[i];
                if (seenTicks[i] == n && hasKey(k) && keys[k].says != seenSays[i]) {
                    return false;
                }
            }
            return true;
        }

        boolean hasPressOfNoKey() {
            for (int i = 0; i < pressCount; i++) {
                if (!hasKey(pressKey[i])) {
                    return true;
                }
            }
            return false;
        }
    }

    /** A row of cells of a lane, or nothing; the cells are made once for the longest row. */
    private static final class Sheet {
        private static final int NOTHING = -1, BYTES = 0, SHORTS = 1, INTS = 2;
        private final int[] cells;
        private int lane;
        int size;

        Sheet() {
            cells = new int[MOST_CELLS];
            lane = NOTHING;
        }

        static boolean isLane(int lane) {
            return within(lane, BYTES, INTS);
        }

        boolean isNothing() {
            return lane == NOTHING;
        }

        void renew(int newLane, int newSize) {
            lane = newLane;
            size = Math.min(newSize, MOST_CELLS);
            for (int i = 0; i < MOST_CELLS; i++) {
                cells[i] = 0;
            }
        }

        int faultAt(int i) {
            if (isNothing()) {
                return NULL_FAULT;
            }
            return within(i, 0, size - 1) ? 0 : INDEX_FAULT;
        }

        /** The lane is looked at with each three cells, so that reading none finds no fault. */
        int faultOfThree(int asLane, int at) {
            int found = faultAs(asLane);
            for (int i = 0; i < 3 && found == 0; i++) {
                found = faultAt(at + i);
            }
            return found;
        }

        /** Nothing may be taken as of any lane, as the machine does: NULL is found at the first cell. */
        private int faultAs(int asLane) {
            return isNothing() || lane == asLane ? 0 : CAST_FAULT;
        }

        int get(int i) {
            return faultAt(i) == 0 ? cells[i] : 0;
        }

        void put(int i, int v) {
            if (faultAt(i) != 0) {
                return;
            }
            switch (lane) {
                case BYTES: cells[i] = (byte) v; break;
                case SHORTS: cells[i] = (short) v; break;
                default: cells[i] = v; break;
            }
        }
    }

    /** Reads a text, token by token, and stops at its first fault. */
    private static final class TextReader {
        private static final int END = 0, NAME = 1, NUMBER = 2, SEMICOLON = 3, NO_TOKEN = 4;
        private static final int NOT_A_TOKEN = 1, OUT_OF_PLACE = 2, OUT_OF_BOUNDS = 3;
        private static final int EVERY_TWICE = 4, TOO_MANY = 5, NO_SUCH_KEY = 6;
        private final byte[] bytes;
        private final Board board;
        private int length;
        private int place;
        private int token;
        private int tokenPlace;
        private int value;
        private boolean everyTold;
        int fault;
        int faultPlace;

        TextReader(byte[] text, Board toFill) {
            bytes = text;
            board = toFill;
        }

        /** How many lines the first bytes tell; the board is theirs only if there is no fault. */
        int readLines(int textLength) {
            board.clear();
            length = Math.min(textLength, bytes.length);
            place = 0;
            everyTold = false;
            fault = 0;
            faultPlace = 0;
            int lines = 0;
            nextToken();
            while (fault == 0 && token != END && lines <= MOST_BYTES) {
                readLine();
                nextToken();
                lines++;
            }
            if (fault == 0 && board.hasPressOfNoKey()) {
                fail(NO_SUCH_KEY, length);
            }
            return lines;
        }

        /** Only the first fault counts. */
        private void fail(int what, int where) {
            if (fault == 0) {
                fault = what;
                faultPlace = where;
            }
        }

        private void readLine() {
            int line = token == NAME ? lineNamed() : NONE;
            if (line == NONE) {
                fail(OUT_OF_PLACE, tokenPlace);
            } else if (line == EVERY_LINE) {
                readEvery();
            } else if (line == PRESS_LINE) {
                readPress();
            } else {
                readKey(line);
            }
            readSemicolon();
        }

        private void readKey(int newKind) {
            if (board.keyCount >= MOST_KEYS) {
                fail(TOO_MANY, tokenPlace);
            }
            int newBounce = readNumber(0, MOST_BOUNCE);
            int newNumber = readNumber(1, MOST_NUMBER);
            if (fault == 0) {
                board.addKey(newKind, newBounce, newNumber);
            }
        }

        private void readPress() {
            if (board.pressCount >= MOST_PRESSES) {
                fail(TOO_MANY, tokenPlace);
            }
            int t = readNumber(0, LAST_PRESS_TICK);
            int k = readNumber(0, MOST_KEYS - 1);
            int state = readNumber(0, 1);
            if (fault == 0) {
                board.addPress(t, k, state);
            }
        }

        private void readEvery() {
            if (everyTold) {
                fail(EVERY_TWICE, tokenPlace);
            }
            everyTold = true;
            int v = readNumber(1, MOST_EVERY);
            if (fault == 0) {
                board.every = v;
            }
        }

        private int readNumber(int least, int most) {
            nextToken();
            if (token != NUMBER) {
                fail(OUT_OF_PLACE, tokenPlace);
            } else if (!within(value, least, most)) {
                fail(OUT_OF_BOUNDS, tokenPlace);
            }
            return value;
        }

        private void readSemicolon() {
            nextToken();
            if (token != SEMICOLON) {
                fail(OUT_OF_PLACE, tokenPlace);
            }
        }

        /** Reads nothing behind a fault: the token there then is none. */
        private void nextToken() {
            token = NO_TOKEN;
            if (fault != 0) {
                return;
            }
            while (place < length && bytes[place] == ' ') {
                place++;
            }
            tokenPlace = place;
            if (place >= length) {
                token = END;
            } else if (isLetter(bytes[place])) {
                takeName();
            } else if (isFigure(bytes[place])) {
                takeNumber();
            } else if (bytes[place] == ';') {
                place++;
                token = SEMICOLON;
            } else {
                fail(NOT_A_TOKEN, tokenPlace);
            }
        }

        private void takeName() {
            while (place < length && isLetter(bytes[place])) {
                place++;
            }
            token = NAME;
        }

        private void takeNumber() {
            value = 0;
            while (place < length && isFigure(bytes[place])) {
                value = value * 10 + bytes[place] - '0';
                place++;
            }
            if (place - tokenPlace > 2) {
                fail(NOT_A_TOKEN, tokenPlace);
            } else {
                token = NUMBER;
            }
        }

        private static boolean isLetter(int c) {
            return c >= 'a' && c <= 'z';
        }

        private static boolean isFigure(int c) {
            return c >= '0' && c <= '9';
        }

        private int lineNamed() {
            for (int line = 0; line < LINES; line++) {
                if (nameIs(lineName(line))) {
                    return line;
                }
            }
            return NONE;
        }

        private boolean nameIs(String name) {
            if (place - tokenPlace != name.length()) {
                return false;
            }
            for (int i = 0; i < name.length(); i++) {
                if (bytes[tokenPlace + i] != name.charAt(i)) {
                    return false;
                }
            }
            return true;
        }

        private static String lineName(int line) {
            switch (line) {
                case ALIKE: return "alike";
                case SCALE: return "scale";
                case SHUT: return "shut";
                case BOTH: return "both";
                case PRESS_LINE: return "press";
                default: return "every";
            }
        }
    }
}
