import java.lang.reflect.InvocationTargetException;
import java.lang.reflect.Method;
import java.util.Arrays;
import java.util.HashMap;
import java.util.Map;
import java.util.TreeMap;

/** Runs of 512 calls with fitting and unfitting arguments, each on the class and on the plain model of the document. */
public final class RandomRunsTest {
    private static final int RUNS = 2000;
    private static final int CALLS_OF_A_RUN = 512;
    private static final int[] ODD = {-1, Integer.MIN_VALUE, Integer.MAX_VALUE, 0, 8, 60, 100};
    private static final String SIGNS = "fhsbmowcxF";

    /** How often a call stands among a hundred or so, its name, and what its arguments are. */
    private static final String[] CALLS = {
        "5 blank fhs 50..200 20..99 40..140", "9 cut tool bsm 0..3", "3 upcut tool", "1 teeth tool",
        "2 place tool 0..59", "2 height tool 0..59", "2 wear tool 0..59", "1 sings tool", "5 set tool 0..9",
        "1 kerf tool", "1 gullets tool", "1 thickness tool", "1 state tool", "9 harden tool 600..1200 owb",
        "1 hardness tool", "1 bend tool", "5 temper tool 100..400", "5 straighten tool 1..6",
        "2 seed 1..2147483646", "9 strokes tool 1..70 1..40", "1 chips tool", "2 brush tool", "1 work tool",
        "4 soften tool", "4 grind tool", "1 recuts tool", "2 recutsLeft tool bsm", "3 order fhs bsm 1..8",
        "2 isGood tool 0..5", "9 send tool 0..5", "1 sent 0..5", "1 wornShare", "1 meanHardness", "0 checksum",
        "1 isSound"};

    private static final Map<String, Integer> ANSWERS = new TreeMap<>();
    private static long random = 12345;
    private static int tools;
    /** The one letter of each kind that a narrow run takes, so that tools often fit the orders; -1 in a wide run. */
    private static int letter;

    private RandomRunsTest() {
    }

    public static void main(String[] args) throws Exception {
        Map<String, Method> due = methods(Plain.class);
        Map<String, Method> told = methods(Teethrow.class);
        for (int run = 0; run < RUNS; run++) {
            tools = 1 + run % 8;
            letter = run % 2 == 0 ? -1 : run % 3;
            oneRun(run, told, due);
        }
        eachAnswerCameUp(told);
        Check.end();
    }

    private static Map<String, Method> methods(Class<?> of) {
        Map<String, Method> all = new HashMap<>();
        for (Method method : of.getDeclaredMethods()) {
            method.setAccessible(true);
            all.put(method.getName(), method);
        }
        return all;
    }

    private static void oneRun(int run, Map<String, Method> told, Map<String, Method> due) throws Exception {
        Teethrow x = new Teethrow();
        Plain plain = new Plain();
        // Each call is followed by a checksum, which counts as one.
        for (int call = 0; call < CALLS_OF_A_RUN / 2; call++) {
            String[] words = someCall();
            Object[] arguments = arguments(words);
            String want = outcome(due.get(words[1]), plain, arguments);
            String what = "run " + run + ", call " + call + ": " + words[1] + Arrays.toString(arguments);
            Check.due(what, outcome(told.get(words[1]), x, arguments), want);
            Check.due("checksum behind " + what, x.checksum(), plain.checksum());
            String kind = words[1] + (want.startsWith("throws") ? " " + want : "");
            ANSWERS.merge(kind, 1, Integer::sum);
        }
    }

    private static String outcome(Method method, Object on, Object[] arguments) throws Exception {
        try {
            return String.valueOf(method.invoke(on, arguments));
        } catch (InvocationTargetException e) {
            return "throws " + e.getCause().getClass().getSimpleName();
        }
    }

    private static int below(int bound) {
        random = random * 6364136223846793005L + 1442695040888963407L;
        return (int) ((random >>> 33) % bound);
    }

    private static String[] someCall() {
        while (true) {
            String[] words = CALLS[below(CALLS.length)].split(" ");
            if (below(9) < Integer.parseInt(words[0])) {
                return words;
            }
        }
    }

    private static Object[] arguments(String[] words) {
        Object[] all = new Object[words.length - 2];
        for (int i = 0; i < all.length; i++) {
            String kind = words[i + 2];
            int dots = kind.indexOf("..");
            if (kind.equals("tool")) {
                all[i] = below(40) == 0 ? number(0, 7) : below(tools);
            } else if (dots > 0) {
                all[i] = number(Integer.parseInt(kind.substring(0, dots)), Integer.parseInt(kind.substring(dots + 2)));
            } else {
                all[i] = sign(kind);
            }
        }
        return all;
    }

    private static char sign(String kind) {
        if (below(30) == 0) {
            return SIGNS.charAt(below(SIGNS.length()));
        }
        return kind.charAt(letter < 0 ? below(kind.length()) : letter);
    }

    /** A number from least to most, often an end, at times one beside. */
    private static int number(int least, int most) {
        switch (below(60)) {
            case 0:
                return ODD[below(ODD.length)];
            case 1:
                return least - 1;
            case 2:
                return most + 1;
            case 3: case 4: case 5:
                return least;
            case 6: case 7: case 8:
                return most;
            default:
                return least + below(most - least + 1);
        }
    }

    /** A run that never sends a tool, say, would tell nothing of it. */
    private static void eachAnswerCameUp(Map<String, Method> told) {
        for (String call : CALLS) {
            Method method = told.get(call.split(" ")[1]);
            if (!method.getName().equals("checksum")) {
                Check.due("often: " + method.getName(), ANSWERS.getOrDefault(method.getName(), 0) >= 40, true);
            }
            for (Class<?> exception : method.getExceptionTypes()) {
                String kind = method.getName() + " throws " + exception.getSimpleName();
                Check.due("often: " + kind, ANSWERS.getOrDefault(kind, 0) >= 10, true);
            }
        }
    }
}
