import java.lang.reflect.Array;
import java.lang.reflect.Field;
import java.util.function.Supplier;

/**
 * What the document asks in states that no run of calls reaches: the state is spoilt from outside. A test that fails
 * here because a field was renamed or left out is to be brought along with the class.
 */
public final class SpoiltTest {
    private SpoiltTest() {
    }

    public static void main(String[] args) throws Exception {
        tooThinToCut();
        hardWithoutTeeth();
        oneTooth();
        threeTeethSing();
        hardnessOfOneAtLeast();
        heightOfNoneAtLeast();
        hardAndNotCracked();
        eachToothFresh();
        places();
        heights();
        chips();
        oneChip();
        toothTooFewOrTooMany();
        Check.end();
    }

    private static Object tool(Teethrow x) throws Exception {
        return Array.get(field(x, "tools").get(x), 0);
    }

    private static Object row(Teethrow x) throws Exception {
        return field(tool(x), "row").get(tool(x));
    }

    private static Field field(Object of, String name) throws Exception {
        Field field = of.getClass().getDeclaredField(name);
        field.setAccessible(true);
        return field;
    }

    private static Teethrow withTool(Teethrow x, String name, int number) throws Exception {
        field(tool(x), name).setInt(tool(x), number);
        return x;
    }

    private static Teethrow withCount(Teethrow x, int count) throws Exception {
        field(row(x), "count").setInt(row(x), count);
        return x;
    }

    private static Teethrow withTooth(Teethrow x, String name, int tooth, int number) throws Exception {
        ((int[]) field(row(x), name).get(row(x)))[tooth] = number;
        return x;
    }

    /** No blank is thinner than 20, ground or not, and no cut needs more than 9 and 10. */
    private static void tooThinToCut() throws Exception {
        for (char shape : new char[] {'f', 'h', 's'}) {
            for (char name : new char[] {'b', 's', 'm'}) {
                int depth = (name == 'b' ? 9 : name == 's' ? 6 : 4) - (shape == 'h' ? 1 : 0);
                Teethrow just = withTool(Shops.blank(shape, 60, 40, 100), "thickness", depth + 10);
                Check.due("just thick enough", just.cut(0, name, 0), Shops.cut(shape, name, 0).teeth(0));
                Supplier<Teethrow> thin = () -> thin(shape, depth + 9);
                Check.refused("too thin", UnsupportedOperationException.class, thin, x -> x.cut(0, name, 0));
                Check.refused("too thin, and wrong", IllegalArgumentException.class, thin, x -> x.cut(0, name, 4));
            }
        }
    }

    private static Teethrow thin(char shape, int thickness) {
        try {
            return withTool(Shops.blank(shape, 60, 40, 100), "thickness", thickness);
        } catch (Exception e) {
            throw new AssertionError(e);
        }
    }

    /** A tool without teeth is never hardened, and a hard one is never ground. */
    private static void hardWithoutTeeth() {
        Class<?> unfit = UnsupportedOperationException.class;
        Supplier<Teethrow> hard = () -> counted(Shops.hardFile(), 0);
        Supplier<Teethrow> cracked = () -> counted(Shops.crackedTool('f'), 0);
        Check.refused("cut, hard without teeth", unfit, hard, x -> x.cut(0, 'b', 1));
        Check.refused("cut, cracked without teeth", unfit, cracked, x -> x.cut(0, 'b', 1));
        Check.refused("grind, hard without teeth", unfit, hard, x -> x.grind(0));
    }

    private static Teethrow counted(Teethrow x, int count) {
        try {
            return withCount(x, count);
        } catch (Exception e) {
            throw new AssertionError(e);
        }
    }

    /** A single tooth is a row of teeth, too. */
    private static void oneTooth() {
        Supplier<Teethrow> one = () -> counted(Shops.softFile(), 1);
        Check.refused("cut", UnsupportedOperationException.class, one, x -> x.cut(0, 'b', 1));
        Check.due("recutsLeft counts it", one.get().recutsLeft(0, 'm'), 1 + (40 - 11 - 20) / 6);
        Check.due("upcut", one.get().upcut(0), 8);
        Check.due("grind", one.get().grind(0), 29);
        Check.due("harden", one.get().harden(0, 850, 'w'), 58);
    }

    /** No row has fewer than six teeth. */
    private static void threeTeethSing() throws Exception {
        for (int count = 0; count <= 4; count++) {
            Check.due("even: " + count, withCount(Shops.cut('f', 'b', 0), count).sings(0), count >= 3);
            Check.due("spread: " + count, withCount(Shops.cut('f', 'b', 1), count).sings(0), false);
        }
        for (int tooth = 1; tooth < 10; tooth++) {
            Teethrow x = withTooth(Shops.cut('f', 'b', 0), "places", tooth, 6 * tooth + 1);
            Check.due("one stands otherwise", x.sings(0), false);
        }
    }

    /** The least that calls reach is 9: 20 and 4, less 15. */
    private static void hardnessOfOneAtLeast() throws Exception {
        for (int carbon = 0; carbon <= 40; carbon++) {
            Teethrow x = withTool(Shops.softFile(), "carbon", carbon);
            Check.due("carbon " + carbon, x.harden(0, 1200, 'o'), Math.max(1, carbon / 2 + 4 - 15));
        }
    }

    /** A stroke adds less than 100 to less than 100. */
    private static void heightOfNoneAtLeast() throws Exception {
        Teethrow x = withTooth(withTooth(Shops.hardFile(), "heights", 4, 1), "wears", 4, 250);
        x.strokes(0, 20, 1);
        Check.due("height", x.height(0, 4), 0);
        Check.due("wear", x.wear(0, 4), 70);
        Teethrow y = withTooth(Shops.hardFile(), "wears", 4, 250);
        y.strokes(0, 20, 1);
        Check.due("1 lower by each 100", y.height(0, 4), 7);
    }

    /** A cracked tool is bent by more than 30, and can't be straightened. */
    private static void hardAndNotCracked() throws Exception {
        Teethrow x = withTool(Shops.crackedTool('f'), "bend", 0);
        x.order('f', 'm', 1);
        Check.due("hard enough", x.hardness(0) >= 50, true);
        Check.due("cracked and straight", x.isGood(0, 0), false);
        Teethrow y = withTool(Shops.goodFile(), "bend", 3);
        Check.due("hard and straight", y.isGood(0, 0), true);
    }

    /** A stroke goes over more than one tooth, from the first on. */
    private static void eachToothFresh() throws Exception {
        for (int tooth = 0; tooth < 11; tooth++) {
            Check.due("wear", withTooth(Shops.goodFile(), "wears", tooth, 1).isGood(0, 0), false);
            Teethrow x = withTooth(Shops.goodFile(), "heights", tooth, 5);
            Check.due("lost height", x.isGood(0, 0), false);
            Check.due("the share of it", x.wornShare(), 1.0f / 11.0f);
        }
    }

    private static void places() throws Exception {
        for (int tooth = 0; tooth < 9; tooth++) {
            int due = Shops.hardFile().place(0, tooth);
            for (int beside = -1; beside <= 1; beside++) {
                Teethrow x = withTooth(Shops.hardFile(), "places", tooth, due + beside);
                Check.due("isSound, a place", x.isSound(), beside == 0);
            }
        }
    }

    /** No tooth is below 0 by itself; by such a one a stroke and what is told ahead of it differ. */
    private static void heights() throws Exception {
        for (int tooth = 0; tooth < 9; tooth++) {
            for (int height = -1; height <= 10; height++) {
                Teethrow x = withTooth(Shops.hardFile(), "heights", tooth, height);
                Check.due("isSound, a height of " + height, x.isSound(), height >= 0 && height <= 9);
            }
            Teethrow full = withTool(withTooth(Shops.hardFile(), "heights", tooth, -1), "chips", 81);
            Check.due("isSound, no bite into full gullets", full.isSound(), true);
        }
        Check.due("isSound, soft", withTooth(Shops.softFile(), "heights", 3, 10).isSound(), false);
    }

    /** Each hardness and each depth: one more bite is that on the softest metal, up to the highest tooth. */
    private static void chips() throws Exception {
        for (char shape : new char[] {'f', 'h', 's'}) {
            for (char name : new char[] {'b', 's', 'm'}) {
                for (int hardness = 1; hardness <= 66; hardness++) {
                    Teethrow x = withTool(Shops.cut(shape, name, 1), "hardness", hardness);
                    field(tool(x), "state").setChar(tool(x), 'h');
                    int bite = hardness > 1 ? 1 + (hardness - 1) / 10 : 0;
                    oneMoreBite(x, Math.min(bite, x.height(0, 0)), "hardness " + hardness + " of " + shape + name);
                }
            }
        }
        oneMoreBite(Shops.softFile(), 0, "a soft one that never bit");
        oneMoreBite(Shops.crackedTool('s'), 0, "a cracked one that never bit");
        Teethrow saw = Shops.hardSaw();
        saw.set(0, 9);
        oneMoreBite(saw, 6, "a saw that is set");
        for (int tooth = 0; tooth < 9; tooth++) {
            oneMoreBite(lowTeeth(tooth, 3), 3, "the tooth " + tooth + " alone is 3 high");
        }
        oneMoreBite(lowTeeth(4, 0), 0, "no tooth is higher than 0");
    }

    /** A bite of 1 alone, of a tooth that could bite 6 then, and less by the time of the next bite. */
    private static void oneChip() throws Exception {
        Teethrow x = lowTeeth(4, 9);
        Check.due("a bite of 1", x.strokes(0, 57, 1), 1);
        x.temper(0, 400);
        Check.due("another", x.strokes(0, 41, 1), 1);
        x.soften(0);
        oneMoreBite(x, 6, "by bites of 1");
    }

    private static Teethrow lowTeeth(int tooth, int height) throws Exception {
        Teethrow x = Shops.hardFile();
        for (int i = 0; i < 9; i++) {
            withTooth(x, "heights", i, i == tooth ? height : 0);
        }
        return x;
    }

    private static void oneMoreBite(Teethrow x, int bite, String what) throws Exception {
        for (int more = -1; more <= 10; more++) {
            withTool(x, "chips", x.gullets(0) + more);
            Check.due(more + " more than they hold, " + what, x.isSound(), more <= bite);
        }
    }

    private static void toothTooFewOrTooMany() throws Exception {
        Check.due("a tooth is lacking", withCount(Shops.hardFile(), 8).isSound(), false);
        Teethrow x = withCount(Shops.cut('f', 'b', 0), 11);
        Check.due("a tooth at the length", withTooth(x, "places", 10, 60).isSound(), false);
        Teethrow y = withCount(Shops.longest('f'), 59);
        Check.due("59 where 60 go", y.isSound(), false);
        Check.due("60", withCount(y, 60).isSound(), true);
    }
}
