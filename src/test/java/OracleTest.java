import java.lang.reflect.InvocationTargetException;
import java.lang.reflect.Method;
import java.util.ArrayList;
import java.util.Arrays;
import java.util.HashMap;
import java.util.List;
import java.util.Map;
import java.util.Random;

/** Runs of up to 512 calls, drawn from a fixed seed, on the class and on the oracle: all answers are alike, and none is thrown. */
final class OracleTest {
    private static final Kit KIT = new Kit();
    private static final int RUNS = 1500;
    private static final int CALLS = 512;
    private static final int[] WILD = {-1, 0, 1, 2, 12, 13, 31, 61, 99, 100, 101, 300, 301, 999, 1000, 1001, 65536,
        Integer.MAX_VALUE, Integer.MIN_VALUE, Integer.MIN_VALUE + 1, -1000000001};
    private static final String[] NAMES = {
        "told", "yard", "grows", "night", "thaw", "beat", "out", "drift", "today", "bestBeat", "laggards", "horses", "string",
        "turn", "plan", "lost", "odds", "noFall", "bore", "kinds", "write", "tear", "judge", "seed", "keep", "goBack", "fault",
        "cut", "feed"};
    /** By call: a lower and an upper bound for each number, from which sound ones are drawn. */
    private static final int[][] BOUNDS = {
        {0, 17}, {0, 11, 0, 2}, {0, 11, 0, 30}, {0, 30, 1, 6}, {0, 60}, {1, 9}, {1, 300}, {1, 9}, {1, 300, 0, 1}, {}, {1, 400},
        {1, 400}, {1, 300, 1, 99}, {1, 300}, {1, 8, 1, 400, 0, 30, 0, 1}, {0, 30, 1, 999}, {1, 8, 0, 30, 0, 60, 0, 100, 1, 400},
        {0, 99, 0, 1000}, {0, 11, 0, 9, 0, 30, 0, 300}, {0, 11}, {0, 11, 0, 300}, {}, {}, {0, Integer.MAX_VALUE}, {0, 1}, {0, 1},
        {}, {}, {0, 255}};

    private final Random random;
    private final IceSway x = new IceSway();
    private final Oracle oracle = new Oracle();
    private final List<String> calls = new ArrayList<>();
    private final Map<String, Method> ofClass = methodsOf(IceSway.class);
    private final Map<String, Method> ofOracle = methodsOf(Oracle.class);

    private OracleTest(long seed) {
        random = new Random(seed);
    }

    public static void main(String[] args) throws IllegalAccessException {
        for (int run = 0; run < RUNS; run++) {
            if (!new OracleTest(run).goesAlike()) {
                break;
            }
        }
        KIT.end();
    }

    private static Map<String, Method> methodsOf(Class<?> type) {
        Map<String, Method> methods = new HashMap<>();
        for (Method m : type.getDeclaredMethods()) {
            if (Arrays.asList(NAMES).contains(m.getName())) {
                methods.put(m.getName(), m);
            }
        }
        return methods;
    }

    private boolean goesAlike() throws IllegalAccessException {
        boolean wild = random.nextInt(4) == 0;
        while (calls.size() < CALLS) {
            boolean alike = random.nextInt(60) == 0 || calls.isEmpty() ? tellText() : callAny(wild);
            if (!alike) {
                System.out.println("behind " + calls);
                return false;
            }
        }
        return true;
    }

    private boolean callAny(boolean wild) throws IllegalAccessException {
        int i = random.nextInt(NAMES.length);
        if ((NAMES[i].equals("cut") || NAMES[i].equals("feed")) && random.nextInt(20) > 0) {
            return true;
        }
        if (NAMES[i].equals("bore") || NAMES[i].equals("write")) {
            return noteNearTruth(NAMES[i]);
        }
        int[] bounds = BOUNDS[i];
        int[] args = new int[bounds.length / 2];
        for (int j = 0; j < args.length; j++) {
            int span = bounds[2 * j + 1] - bounds[2 * j];
            args[j] = bounds[2 * j] + (span == Integer.MAX_VALUE ? random.nextInt(span) : random.nextInt(span + 1));
            if (random.nextInt(wild ? 3 : 40) == 0) {
                args[j] = random.nextBoolean() ? WILD[random.nextInt(WILD.length)] : random.nextInt();
            }
        }
        return isAlike(NAMES[i], args);
    }

    /** Records that hold often, so that kinds and judge have more than one answer. */
    private boolean noteNearTruth(String name) throws IllegalAccessException {
        int y = random.nextInt(Math.max(1, x.told(0)) + random.nextInt(2));
        int cold = random.nextInt(31);
        int nights = random.nextInt(10);
        int ice = Math.max(0, x.yard(y, 1));
        if (random.nextInt(5) == 0) {
            ice = random.nextInt(302);
        }
        if (name.equals("write")) {
            return isAlike(name, y, ice);
        }
        if (random.nextBoolean()) {
            x.keep(1);
            oracle.keep(1);
            for (int i = 0; i < nights; i++) {
                x.night(cold, 1);
            }
            ice = Math.max(0, x.yard(y, 1));
            x.goBack(1);
        }
        return isAlike(name, y, nights, cold, ice);
    }

    private boolean tellText() throws IllegalAccessException {
        StringBuilder text = new StringBuilder("y");
        int yards = 1 + random.nextInt(random.nextInt(4) == 0 ? 13 : 6);
        for (int i = 0; i < yards; i++) {
            blank(text.append(i == 0 ? "" : ","));
            text.append(random.nextInt(4)).append(' ');
            blank(text.append(random.nextInt(3) == 0 ? 0 : random.nextInt(100)));
        }
        text.append(';');
        clause(text, 'b', new int[] {1, 12, 0, 20, 2, 9, 0, random.nextBoolean() ? 3 : 20});
        clause(text, 'g', new int[] {1, random.nextBoolean() ? 99 : 999, 0, 99});
        clause(text, 'c', new int[] {0, random.nextBoolean() ? 3 : 20, 0, 99, 0, 999});
        if (random.nextInt(2) == 0) {
            spoil(text);
        }
        for (int i = 0; i < text.length(); i++) {
            if (!isAlike("feed", text.charAt(i))) {
                return false;
            }
        }
        return isAlike("cut") && isAlike("fault") && isAlike("told", 0);
    }

    private void clause(StringBuilder text, char word, int[] bounds) {
        if (random.nextInt(4) == 0) {
            return;
        }
        blank(blank(text).append(word));
        for (int i = 0; i < bounds.length; i += 2) {
            text.append(bounds[i] + random.nextInt(bounds[i + 1] - bounds[i] + 1)).append(i + 2 < bounds.length ? " " : "");
        }
        text.append(';');
    }

    private StringBuilder blank(StringBuilder text) {
        return random.nextInt(8) == 0 ? text.append(' ') : text;
    }

    private void spoil(StringBuilder text) {
        for (int n = 1 + random.nextInt(2); n > 0; n--) {
            int at = random.nextInt(text.length() + 1);
            char sign = random.nextInt(8) == 0 ? (char) random.nextInt(256) : "ybgc;,0123456789 ".charAt(random.nextInt(17));
            int how = random.nextInt(4);
            if (how == 0 || at == text.length()) {
                text.insert(at, sign);
            } else if (how == 1) {
                text.setCharAt(at, sign);
            } else if (how == 2) {
                text.deleteCharAt(at);
            } else if (random.nextInt(3) == 0) {
                text.setLength(at);
            }
        }
    }

    private boolean isAlike(String name, int... args) throws IllegalAccessException {
        String call = name + Arrays.toString(args);
        calls.add(call);
        int want = answer(ofOracle.get(name), oracle, args, Integer.MIN_VALUE);
        int got = answer(ofClass.get(name), x, args, Integer.MIN_VALUE + 1);
        KIT.due(call, got, want);
        return got == want;
    }

    private static int answer(Method method, Object object, int[] args, int ifThrown) throws IllegalAccessException {
        Object[] boxed = Arrays.stream(args).boxed().toArray();
        try {
            return (Integer) method.invoke(object, boxed);
        } catch (InvocationTargetException thrown) {
            System.out.println(method.getName() + Arrays.toString(args) + " threw " + thrown.getCause());
            return ifThrown;
        }
    }
}
