import java.lang.reflect.InvocationTargetException;
import java.lang.reflect.Method;
import java.lang.reflect.Modifier;
import java.util.ArrayList;
import java.util.Arrays;
import java.util.Comparator;
import java.util.List;
import java.util.Random;
import java.util.TreeMap;

/** Runs of calls by seeds, each answer compared with that of Model; no call may throw. An argument: how many runs. */
public final class ModelTest {
    private static final int RUNS = 200;
    /** What later calls answer is free. */
    private static final int MOST_CALLS = 512;
    /** More than it takes to feed any of the texts (one that is too long for THE TAPE, too) and to tell it. */
    private static final int CALLS_OF_A_TEXT = 190;
    private static final int STEPS = 400;
    private static final int[] WILD = {Integer.MIN_VALUE, Integer.MAX_VALUE, -1, -2, 41, 100, 101, 128, 160, 161, 200, 201, 999, 1000};

    private final Random random;
    private final KeySieves real = new KeySieves();
    private final Model model = new Model();
    private final StringBuilder history = new StringBuilder();
    private int made;
    private static int answers;
    /** How often each call answered what, told if an argument says how many runs there are. */
    private static TreeMap<String, Integer> tally;

    private ModelTest(long seed) {
        random = new Random(seed);
    }

    public static void main(String[] args) throws ReflectiveOperationException {
        int runs = args.length > 0 ? Integer.parseInt(args[0]) : RUNS;
        tally = args.length > 0 ? new TreeMap<>() : null;
        List<Method> calls = new ArrayList<>();
        for (Method m : KeySieves.class.getDeclaredMethods()) {
            if (Modifier.isPublic(m.getModifiers())) {
                calls.add(m);
            }
        }
        calls.sort(Comparator.comparing(Method::getName));
        for (int run = 0; run < runs; run++) {
            ModelTest test = new ModelTest(run);
            if (!test.run(calls)) {
                int from = Math.max(0, test.history.length() - 3000);
                System.out.println("run " + run + ": ..." + test.history.substring(from));
                System.exit(1);
            }
        }
        if (tally != null) {
            tally.forEach((call, times) -> System.out.println(call + ": " + times));
        }
        System.out.println(answers + " answers are as the model's");
    }

    private boolean run(List<Method> calls) throws ReflectiveOperationException {
        if (!tell()) {
            return false;
        }
        for (int i = 0; i < STEPS && made < MOST_CALLS; i++) {
            int dice = random.nextInt(100);
            if (dice < 2) {
                if (made + CALLS_OF_A_TEXT <= MOST_CALLS && !tell()) {
                    return false;
                }
            } else {
                Method m = calls.get(random.nextInt(calls.size()));
                boolean rare = m.getName().equals("text") || m.getName().equals("drop");
                if (rare && random.nextInt(10) != 0) {
                    continue;
                }
                int[] args = new int[m.getParameterCount()];
                for (int a = 0; a < args.length; a++) {
                    args[a] = argument(m.getName(), a);
                }
                if (!agree(m, args)) {
                    return false;
                }
            }
        }
        return true;
    }

    /** Mostly in bounds (those of the letter), sometimes just beyond, seldom wild. */
    private int argument(String call, int a) {
        int dice = random.nextInt(100);
        if (dice < 2) {
            return WILD[random.nextInt(WILD.length)];
        }
        int beyond = dice < 6 ? 1 : 0;
        switch (boundsOf(call).charAt(a)) {
            case 'k': return random.nextInt(model.rule(0) + beyond + (model.rule(0) == 0 ? 1 : 0)) - beyond;
            case 'b': return random.nextInt(2 + beyond) - beyond;
            case '3': return random.nextInt(3 + beyond);
            case '4': return random.nextInt(4 + beyond);
            case '5': return random.nextInt(5 + beyond);
            case '7': return random.nextInt(7 + beyond);
            case '9': return random.nextInt(10 + beyond);
            case 'v': return random.nextInt(11 + beyond);
            case 'n': return random.nextInt(9 + beyond);
            case 'T': return dice < 25 ? random.nextInt(203) - 1 : random.nextInt(40);
            case 't': return dice < 10 ? random.nextInt(101) : random.nextInt(12);
            case 'p': return dice < 25 ? random.nextInt(102) - 1 : Math.max(0, Math.min(99, model.rule(2))) + random.nextInt(12);
            case 'c': return random.nextInt(dice < 30 ? 44 : 8) - 1;
            case 's': return random.nextInt();
            case 'l': return dice < 15 ? random.nextInt() : dice < 60 ? random.nextInt(2) : random.nextInt(100);
            case 'a': return random.nextInt(130) - 1;
            default: throw new IllegalStateException(call);
        }
    }

    private static String boundsOf(String call) {
        switch (call) {
            case "feed": return "a";
            case "end": return "c";
            case "rule": return "7";
            case "key": return "k7";
            case "press": return "73";
            case "contact": return "kT";
            case "alter": return "k39";
            case "every": return "5";
            case "strike": return "pkb";
            case "drop": case "forget": return "7";
            case "ticks": return "t";
            case "runs": return "T4";
            case "ahead": return "kTb";
            case "when": return "kb";
            case "due": return "T";
            case "need": case "bear": return "kT4";
            case "kind": return "kTb";
            case "slow": case "lose": return "Tb";
            case "luck": return "vknb";
            case "mean": return "vnb";
            case "see": return "ckb";
            case "kinds": case "numbers": case "bounces": return "k";
            case "ask": return "kb";
            case "drift": return "sTb";
            case "keep": case "back": return "b";
            case "sheet": return "43c";
            case "lay": return "4cl";
            case "read": return "43c4";
            case "count": return "7";
            default: return "";
        }
    }

    private boolean agree(Method m, int... args) throws ReflectiveOperationException {
        history.append("\n  ").append(m.getName()).append(Arrays.toString(args));
        Object[] given = Arrays.stream(args).boxed().toArray();
        Method modelled = Model.class.getDeclaredMethod(m.getName(), m.getParameterTypes());
        long due = ((Number) modelled.invoke(model, given)).longValue();
        made++;
        try {
            long got = ((Number) m.invoke(real, given)).longValue();
            history.append(" = ").append(got);
            answers++;
            if (tally != null) {
                tally.merge(m.getName() + (got < 0 ? " " + Math.max(got, -40) : " ok"), 1, Integer::sum);
            }
            if (got == due) {
                return true;
            }
        } catch (InvocationTargetException e) {
            history.append(" threw ").append(e.getCause());
        }
        history.append(", due is ").append(due);
        return false;
    }

    private boolean tell() throws ReflectiveOperationException {
        Method feed = KeySieves.class.getDeclaredMethod("feed", int.class);
        Method text = KeySieves.class.getDeclaredMethod("text");
        Method end = KeySieves.class.getDeclaredMethod("end", int.class);
        if (!agree(end, 0)) {
            return false;
        }
        String told = someText();
        history.append("\n  feeds ").append(told);
        int feeds = history.length();
        for (int i = 0; i < told.length(); i++) {
            if (!agree(feed, told.charAt(i))) {
                return false;
            }
            history.setLength(feeds);
        }
        return agree(text);
    }

    private String someText() {
        StringBuilder s = new StringBuilder();
        int keys = 1 + random.nextInt(random.nextInt(10) == 0 ? 5 : 4);
        for (int k = 0; k < keys; k++) {
            s.append(List.of("alike", "scale", "shut", "both").get(random.nextInt(4)));
            s.append(' ').append(random.nextInt(10)).append(' ').append(1 + random.nextInt(9)).append(';');
        }
        int presses = random.nextInt(9);
        for (int p = 0; p < presses; p++) {
            s.append("press ").append(random.nextInt(random.nextBoolean() ? 20 : 60)).append(' ');
            s.append(random.nextInt(keys)).append(' ').append(random.nextInt(2)).append(';');
        }
        if (random.nextInt(3) == 0) {
            s.append("every ").append(1 + random.nextInt(4)).append(';');
        }
        int spoils = random.nextInt(4) == 0 ? 1 + random.nextInt(2) : 0;
        for (int i = 0; i < spoils; i++) {
            spoil(s);
        }
        return s.toString();
    }

    private void spoil(StringBuilder s) {
        int at = random.nextInt(s.length());
        String signs = " ;0123459azekA$";
        switch (random.nextInt(4)) {
            case 0: s.insert(at, signs.charAt(random.nextInt(signs.length()))); break;
            case 1: s.setCharAt(at, signs.charAt(random.nextInt(signs.length()))); break;
            case 2: s.setLength(at + 1); break;
            default: s.insert(at, "every 1;"); break;
        }
    }
}
