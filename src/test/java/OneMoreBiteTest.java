import java.util.Map;
import java.util.TreeMap;
import java.util.function.Supplier;

/** Promise 36, what is in gullets: at most what they hold and one more bite. */
public final class OneMoreBiteTest {
    private static final int RUNS = 60000;
    private static final int CALLS_OF_A_RUN = 60;
    /** How often each answer came up, by how much more was in the gullets of the tool 0 than they hold. */
    private static final Map<String, Integer> ANSWERS = new TreeMap<>();
    private static long random = 2026;

    private OneMoreBiteTest() {
    }

    public static void main(String[] args) {
        setBackByOne();
        eachHardness();
        otherDepths();
        lessHardSince();
        hardAnew();
        brushedSince();
        lowTeeth();
        strokesStaySound();
        oneOfMany();
        randomSaws();
        Check.end();
    }

    /** A saw with nine teeth whose gullets hold 81 and have 90 in them: no bite of any tool is 9. */
    private static void setBackByOne() {
        Teethrow x = new Teethrow();
        Check.due("blank", x.blank('s', 50, 99, 100), 0);
        Check.due("cut", x.cut(0, 'b', 0), 9);
        Check.due("set", x.set(0, 1), 0);
        Check.due("harden", x.harden(0, 900, 'w'), 58);
        Check.due("strokes", x.strokes(0, 18, 2), 90);
        Check.due("gullets", x.gullets(0), 90);
        Check.due("isSound, just full", x.isSound(), true);
        Check.due("set back", x.set(0, 0), 1);
        Check.due("gullets then", x.gullets(0), 81);
        Check.due("chips", x.chips(0), 90);
        Check.due("isSound, 9 more", x.isSound(), false);
        long sum = x.checksum();
        Check.due("isSound once more", x.isSound(), false);
        Check.due("nothing changes", x.checksum(), sum);
        x.set(0, 1);
        Check.due("isSound, set as before", x.isSound(), true);
        x.set(0, 0);
        x.brush(0);
        Check.due("isSound, brushed", x.isSound(), true);
    }

    /** A saw of the depth 9, filled at the set 1 by two bites of 5 each; set back, as much is beyond as it has teeth. */
    private static Teethrow beyondByTeeth(int teeth, int hardness) {
        Teethrow x = sawOf(50, 'b', 9 - teeth, hardness);
        Check.due("teeth", x.teeth(0), teeth);
        x.set(0, 1);
        Check.due("bites of 5", x.strokes(0, hardness - 40, 2), 10 * teeth);
        x.set(0, 0);
        Check.due("beyond", x.chips(0) - x.gullets(0), teeth);
        return x;
    }

    /** A saw of the bend 0 or a little more, so hard as that; z is 1 again. */
    private static Teethrow sawOf(int length, char name, int spread, int hardness) {
        int force = hardness >= 62 ? 12 : hardness >= 28 ? 8 : 4;
        int carbon = Math.max(40, 2 * (hardness - force));
        Teethrow x = Shops.blank('s', length, 99, carbon);
        x.cut(0, name, spread);
        int less = carbon / 2 + force - hardness;
        Check.due("hardness", x.harden(0, 900 + 20 * less, force == 12 ? 'b' : force == 8 ? 'w' : 'o'), hardness);
        x.seed(1);
        return x;
    }

    /** One more bite is of this tool: 5 up to the hardness 50, 6 up to 60, 7 up to 66. */
    private static void eachHardness() {
        for (int teeth = 6; teeth <= 9; teeth++) {
            for (int hardness = 41; hardness <= 66; hardness++) {
                int bite = hardness <= 50 ? 5 : hardness <= 60 ? 6 : 7;
                String what = teeth + " beyond, hardness " + hardness;
                Check.due(what, beyondByTeeth(teeth, hardness).isSound(), teeth <= bite);
            }
        }
    }

    /** By the depths 6 and 4 a tooth bites 6 and 4 at most, however hard the saw is. */
    private static void otherDepths() {
        Teethrow x = sawOf(50, 's', 3, 66);
        x.set(0, 1);
        Check.due("eight bites of 4", x.strokes(0, 36, 1), 32);
        Check.due("eight bites of 3", x.strokes(0, 46, 1), 24);
        backTo(x, 8);
        Teethrow y = sawOf(50, 'm', 3, 66);
        y.set(0, 1);
        Check.due("nine bites up to the depth", y.strokes(0, 1, 1), 36);
        Check.due("nine bites of 1", y.strokes(0, 65, 1), 9);
        backTo(y, 9);
    }

    private static void backTo(Teethrow x, int beyond) {
        Check.due("just full", x.chips(0), x.gullets(0));
        Check.due("isSound, just full", x.isSound(), true);
        x.set(0, 0);
        Check.due("beyond", x.chips(0) - x.gullets(0), beyond);
        Check.due("isSound, beyond", x.isSound(), false);
    }

    /** What fell in by bites of 7 stays sound, whatever the tool bites by now. */
    private static void lessHardSince() {
        Teethrow x = beyondByTeeth(7, 66);
        x.temper(0, 400);
        Check.due("tempered to", x.hardness(0), 50);
        Check.due("isSound, tempered", x.isSound(), true);
        x.soften(0);
        Check.due("isSound, softened", x.isSound(), true);
        x.harden(0, 1200, 'o');
        Check.due("isSound, hardened to less", x.isSound(), true);
        Check.due("nothing falls in", x.strokes(0, 1, 40), 0);
        Check.due("isSound, tried in vain", x.isSound(), true);
        x.set(0, 1);
        x.strokes(0, 1, 1);
        x.set(0, 0);
        Check.due("isSound, 7 beyond still", x.isSound(), true);
        // More falls in at the less hardness, and the bites of 7 are among it yet.
        Teethrow y = sawOf(50, 'b', 2, 66);
        y.set(0, 1);
        y.strokes(0, 26, 1);
        y.temper(0, 400);
        Check.due("the rest", y.strokes(0, 10, 1), 35);
        y.set(0, 0);
        Check.due("7 beyond", y.chips(0) - y.gullets(0), 7);
        Check.due("isSound, by bites of both", y.isSound(), true);
    }

    /** A saw that is harder now than it was bites by more now. */
    private static void hardAnew() {
        Teethrow x = sawOf(50, 'b', 3, 50);
        x.soften(0);
        x.set(0, 1);
        Check.due("hardened in oil, too hot", x.harden(0, 1200, 'o'), 31);
        x.strokes(0, 1, 2);
        x.strokes(0, 11, 1);
        Check.due("just full", x.chips(0) - x.gullets(0), 0);
        x.set(0, 0);
        Check.due("6 beyond by bites of 4", x.isSound(), false);
        x.soften(0);
        Check.due("softened", x.isSound(), false);
        Check.due("hardened in water", x.harden(0, 900, 'w'), 50);
        Check.due("6 beyond, 5 by a bite now", x.isSound(), false);
        x.soften(0);
        Check.due("hardened in brine", x.harden(0, 900, 'b'), 54);
        Check.due("6 beyond, 6 by a bite now", x.isSound(), true);
        x.strokes(0, 54, 40);
        x.strokes(0, 1, 40);
        x.soften(0);
        Check.due("softened, and no such bite is in the gullets", x.isSound(), false);
    }

    /** Bites that were brushed away tell nothing of what fell in behind them. */
    private static void brushedSince() {
        Teethrow x = beyondByTeeth(7, 66);
        x.brush(0);
        x.temper(0, 100);
        x.temper(0, 100);
        x.temper(0, 200);
        x.set(0, 1);
        Check.due("bites of 5", x.strokes(0, 10, 2), 70);
        x.set(0, 0);
        Check.due("7 beyond, at the hardness 50", x.isSound(), false);
        x.soften(0);
        Check.due("softened", x.isSound(), false);
    }

    /** A bite goes up to the tooth: strokes on a metal of 70 made all teeth 5 high. */
    private static void lowTeeth() {
        Teethrow x = sawOf(50, 'b', 3, 66);
        x.set(0, 1);
        x.strokes(0, 70, 6);
        Check.due("height", x.height(0, 0), 5);
        Check.due("bites of 5", x.strokes(0, 1, 2), 60);
        Check.due("just full", x.chips(0) - x.gullets(0), 0);
        x.set(0, 0);
        Check.due("6 beyond, of teeth 5 high", x.isSound(), false);
        x.brush(0);
        Check.due("brushed", x.isSound(), true);
    }

    /** What strokes lets fall in by a bite is one more bite at most, behind all that lessens the bites, too. */
    private static void strokesStaySound() {
        for (char shape : new char[] {'f', 'h', 's'}) {
            for (char name : new char[] {'b', 's', 'm'}) {
                for (int carbon = 40; carbon <= 140; carbon += 10) {
                    for (int metal = 1; metal <= 70; metal++) {
                        strokesStaySound(shape, name, carbon, metal);
                    }
                }
            }
        }
    }

    private static void strokesStaySound(char shape, char name, int carbon, int metal) {
        String what = " " + shape + name + ", carbon " + carbon + ", metal " + metal;
        Teethrow x = Shops.blank(shape, 50, 99, carbon);
        x.cut(0, name, carbon / 10 % 4);
        x.harden(0, 860, 'w');
        for (int i = 0; i < 12; i++) {
            x.strokes(0, 1 + (metal + 11 * i) % 70, 1);
            Check.due("stroke " + i + what, x.isSound(), true);
        }
        x.strokes(0, metal, 40);
        Check.due("strokes" + what, x.isSound(), true);
        x.temper(0, 400);
        Check.due("tempered" + what, x.isSound(), true);
        x.soften(0);
        Check.due("softened" + what, x.isSound(), true);
        if (shape != 's') {
            x.upcut(0);
            Check.due("upcut" + what, x.isSound(), true);
        }
        x.harden(0, 1200, 'o');
        Check.due("hardened" + what, x.isSound(), true);
        x.strokes(0, 1, 40);
        Check.due("tried again" + what, x.isSound(), true);
    }

    /** Each tool is looked at, and one that was brushed or ground is sound again. */
    private static void oneOfMany() {
        for (int saw = 0; saw < 8; saw++) {
            Teethrow x = new Teethrow();
            for (int i = 0; i < 8; i++) {
                x.blank('s', 50, 99, 100);
                x.cut(i, 'b', 0);
                x.set(i, 1);
                x.harden(i, 900, 'w');
                x.strokes(i, 18, 2);
            }
            Check.due("all full", x.isSound(), true);
            x.set(saw, 0);
            Check.due("the saw " + saw, x.isSound(), false);
            x.soften(saw);
            x.grind(saw);
            Check.due("ground", x.isSound(), true);
        }
    }

    /** Runs on one saw by calls that change what is in its gullets, what they hold and how it bites. */
    private static void randomSaws() {
        for (int run = 0; run < RUNS; run++) {
            Teethrow x = new Teethrow();
            Plain plain = new Plain();
            int length = 50 + below(30);
            int carbon = 40 + below(below(2) == 0 ? 11 : 101);
            char name = "bsm".charAt(below(3));
            int spread = below(4);
            x.blank('s', length, 99, carbon);
            plain.blank('s', length, 99, carbon);
            Check.due("cut", x.cut(0, name, spread), plain.cut(0, name, spread));
            for (int call = 0; call < CALLS_OF_A_RUN; call++) {
                String what = "run " + run + ", call " + call + ": " + someCall(x, plain);
                boolean due = plain.isSound();
                Check.due("isSound behind " + what, x.isSound(), due);
                int beyond = plain.beyond(0);
                if (beyond > 0 && beyond < 10) {
                    ANSWERS.merge(beyond + " " + due, 1, Integer::sum);
                }
            }
            Check.due("checksum of run " + run, x.checksum(), plain.checksum());
        }
        eachAnswerCameUp();
    }

    /** By fewer than 4 beyond hardly any saw is not sound, for it must have bitten by less than that alone. */
    private static void eachAnswerCameUp() {
        for (int beyond = 1; beyond <= 9; beyond++) {
            boolean sound = ANSWERS.getOrDefault(beyond + " true", 0) >= 10;
            boolean not = ANSWERS.getOrDefault(beyond + " false", 0) >= 10;
            Check.due("sound at times, " + beyond + " beyond: " + ANSWERS, sound, beyond <= 7);
            Check.due("not sound at times, " + beyond + " beyond: " + ANSWERS, not, beyond >= 4);
        }
    }

    private static int below(int bound) {
        random = random * 6364136223846793005L + 1442695040888963407L;
        return (int) ((random >>> 33) % bound);
    }

    private static String someCall(Teethrow x, Plain plain) {
        int metal = below(8) == 0 ? 70 : 1 + below(70);
        int by = below(4) == 0 ? below(10) : below(2);
        int many = 1 + below(3);
        int strokes = metal == 70 ? 3 * many : many;
        int degrees = below(3) == 0 ? 1200 : 820 + below(380);
        char bath = "owb".charAt(below(3));
        switch (below(12)) {
            case 0: case 1: case 2: case 3: case 4:
                return outcome("strokes " + metal + " " + strokes, () -> x.strokes(0, metal, strokes),
                        () -> plain.strokes(0, metal, strokes));
            case 5: case 6: case 7:
                return outcome("set " + by, () -> x.set(0, by), () -> plain.set(0, by));
            case 8:
                return outcome("harden " + degrees + bath, () -> x.harden(0, degrees, bath),
                        () -> plain.harden(0, degrees, bath));
            case 9:
                return outcome("brush", () -> x.brush(0), () -> plain.brush(0));
            case 10:
                return outcome("temper " + many, () -> x.temper(0, 100 * many), () -> plain.temper(0, 100 * many));
            default:
                return outcome("soften", () -> x.soften(0), () -> plain.soften(0));
        }
    }

    private static String outcome(String what, Supplier<Object> told, Supplier<Object> due) {
        Check.due(what, Check.outcome(told), Check.outcome(due));
        return what;
    }
}
