import java.util.function.Supplier;

/** Each range's ends and what stands beside them; all signs; wrong arguments ahead of a state that does not fit. */
public final class RangesTest {
    private RangesTest() {
    }

    public static void main(String[] args) {
        blank();
        cut();
        set();
        harden();
        temper();
        straighten();
        seed();
        strokes();
        recutsLeft();
        order();
        teethOfARow();
        refusedInTheWarm();
        Check.end();
    }

    private interface SignedCall {
        void on(Teethrow x, char sign);
    }

    private static Supplier<Teethrow> fullShop() {
        return () -> Shops.goodFiles(8);
    }

    private static Teethrow sixOrders() {
        Teethrow x = Shops.goodFiles(1);
        for (int i = 0; i < 6; i++) {
            x.order('f', 's', 1);
        }
        return x;
    }

    /** All within the range is answered where the state fits; all outside it is refused there and where it does not. */
    private static void range(String what, int least, int most, Supplier<Teethrow> fits, Check.NumberedCall call) {
        for (int number : new int[] {least, least + 1, most - 1, most}) {
            Check.due(what + " of " + number, told(fits.get(), call, number), "an answer");
        }
        refusedOutside(what, least, most, fits, call);
    }

    private static void refusedOutside(String what, int least, int most, Supplier<Teethrow> setup,
            Check.NumberedCall call) {
        int[] beside = {least - 1, most + 1, 0, -1, -least, -most, least + 256, least + 65536, most - 65536,
            Integer.MIN_VALUE, Integer.MIN_VALUE + least, Integer.MAX_VALUE};
        for (int number : beside) {
            if (number < least || number > most) {
                Check.refused(what + " of " + number, IllegalArgumentException.class, setup, x -> call.on(x, number));
            }
        }
    }

    /** Where the state does not fit, what is outside the range is told first; what is inside leaves the state's exception. */
    private static void unfit(String what, int least, int most, Class<?> exception, Supplier<Teethrow> setup,
            Check.NumberedCall call) {
        refusedOutside(what + ", unfit", least, most, setup, call);
        for (int number : new int[] {least, most}) {
            Check.refused(what + ", unfit, of " + number, exception, setup, x -> call.on(x, number));
        }
    }

    private static String told(Teethrow x, Check.NumberedCall call, int number) {
        return Check.outcome(() -> {
            call.on(x, number);
            return "an answer";
        });
    }

    /** Of all signs just these are taken; the others change nothing. */
    private static void signs(String what, String good, Supplier<Teethrow> setup, SignedCall call) {
        for (int i = 0; i < good.length(); i++) {
            char sign = good.charAt(i);
            Check.due(what + " " + sign, told(setup.get(), (x, number) -> call.on(x, sign), 0), "an answer");
        }
        otherSigns(what, good, setup, call);
    }

    private static void otherSigns(String what, String good, Supplier<Teethrow> setup, SignedCall call) {
        Teethrow x = setup.get();
        int refused = 0;
        for (int sign = 0; sign <= Character.MAX_VALUE; sign++) {
            if (good.indexOf(sign) < 0) {
                char bad = (char) sign;
                String told = told(x, (y, number) -> call.on(y, bad), 0);
                refused += told.equals("throws java.lang.IllegalArgumentException") ? 1 : 0;
            }
        }
        Check.due(what + ", signs that are none", refused, Character.MAX_VALUE + 1 - good.length());
        Check.due("all behind " + what, Check.view(x), Check.view(setup.get()));
    }

    private static void blank() {
        Supplier<Teethrow> seven = () -> Shops.goodFiles(7);
        Class<?> eight = IllegalStateException.class;
        range("blank's length", 50, 200, seven, (x, number) -> x.blank('f', number, 40, 80));
        range("blank's thickness", 20, 99, seven, (x, number) -> x.blank('h', 100, number, 80));
        range("blank's carbon", 40, 140, seven, (x, number) -> x.blank('s', 100, 40, number));
        signs("blank's shape", "fhs", seven, (x, sign) -> x.blank(sign, 100, 40, 80));
        unfit("blank's length", 50, 200, eight, fullShop(), (x, number) -> x.blank('f', number, 40, 80));
        unfit("blank's thickness", 20, 99, eight, fullShop(), (x, number) -> x.blank('h', 100, number, 80));
        unfit("blank's carbon", 40, 140, eight, fullShop(), (x, number) -> x.blank('s', 100, 40, number));
        otherSigns("blank's shape, full", "fhs", fullShop(), (x, sign) -> x.blank(sign, 100, 40, 80));
        Teethrow x = new Teethrow();
        x.blank('h', 50, 20, 40);
        x.blank('h', 200, 99, 140);
        Check.due("the shortest", x.cut(0, 'b', 0), 9);
        Check.due("the longest", x.cut(1, 'b', 0), 34);
        Check.due("the thinnest", x.thickness(0), 20);
        Check.due("the thickest", x.thickness(1), 99);
        Check.due("the least carbon", x.harden(0, 900, 'o'), 24);
        Check.due("the most carbon", x.harden(1, 1200, 'o'), 59);
    }

    private static void cut() {
        Class<?> unfit = UnsupportedOperationException.class;
        range("cut's spread", 0, 3, Shops::file, (x, number) -> x.cut(0, 's', number));
        signs("cut's name", "bsm", Shops::file, (x, sign) -> x.cut(0, sign, 1));
        unfit("cut's spread, with teeth", 0, 3, unfit, Shops::softFile, (x, number) -> x.cut(0, 's', number));
        unfit("cut's spread, hard", 0, 3, unfit, Shops::warmFile, (x, number) -> x.cut(0, 's', number));
        unfit("cut's spread, cracked", 0, 3, unfit, () -> Shops.crackedTool('f'),
                (x, number) -> x.cut(0, 's', number));
        otherSigns("cut's name, hard", "bsm", Shops::warmFile, (x, sign) -> x.cut(0, sign, 1));
    }

    private static void set() {
        Class<?> unfit = UnsupportedOperationException.class;
        range("a soft saw's set", 0, 9, () -> Shops.cut('s', 'm', 1), (x, number) -> x.set(0, number));
        range("a hard saw's set", 0, 9, Shops::warmSaw, (x, number) -> x.set(0, number));
        unfit("a file's set", 0, 9, unfit, Shops::warmFile, (x, number) -> x.set(0, number));
        unfit("a half round one's set", 0, 9, unfit, () -> Shops.cut('h', 'm', 1), (x, number) -> x.set(0, number));
        unfit("a blank saw's set", 0, 9, unfit, () -> Shops.blank('s', 60, 40, 100), (x, number) -> x.set(0, number));
        unfit("a cracked saw's set", 0, 9, unfit, () -> Shops.crackedTool('s'), (x, number) -> x.set(0, number));
        Teethrow x = Shops.cut('s', 'b', 1);
        Check.due("least set", x.set(0, 0), 0);
        Check.due("kerf of the least set", x.kerf(0), 40);
        Check.due("gullets of the least set", x.gullets(0), 81);
        Check.due("most set", x.set(0, 9), 0);
        Check.due("kerf of the most set", x.kerf(0), 58);
        Check.due("gullets of the most set", x.gullets(0), 162);
        Check.due("the set before", x.set(0, 9), 9);
    }

    private static void harden() {
        Class<?> unfit = UnsupportedOperationException.class;
        range("harden's degrees", 600, 1200, Shops::softFile, (x, number) -> x.harden(0, number, 'w'));
        signs("harden's bath", "owb", Shops::softFile, (x, sign) -> x.harden(0, 850, sign));
        otherSigns("harden's bath, too cold", "owb", Shops::softFile, (x, sign) -> x.harden(0, 600, sign));
        for (char bath : new char[] {'o', 'w', 'b'}) {
            Check.NumberedCall call = (x, number) -> x.harden(0, number, bath);
            unfit("harden's degrees, no teeth", 600, 1200, unfit, Shops::file, call);
            unfit("harden's degrees, hard", 600, 1200, unfit, Shops::warmFile, call);
            unfit("harden's degrees, cracked", 600, 1200, unfit, () -> Shops.crackedTool('f'), call);
        }
        otherSigns("harden's bath, no teeth", "owb", Shops::file, (x, sign) -> x.harden(0, 850, sign));
        for (int carbon : new int[] {40, 41, 99, 100, 101, 139, 140}) {
            Check.due("too cold for " + carbon, hardened(carbon, 899 - carbon), 0);
            Check.due("just not too cold for " + carbon, hardened(carbon, 900 - carbon), Math.min(66, carbon / 2 + 8));
        }
    }

    private static int hardened(int carbon, int degrees) {
        Teethrow x = Shops.blank('f', 60, 40, carbon);
        x.cut(0, 'b', 1);
        int hardness = x.harden(0, degrees, 'w');
        Check.due("hardness", x.hardness(0), hardness);
        Check.due("state", x.state(0), hardness == 0 ? 's' : 'h');
        Check.due("bend", x.bend(0), hardness == 0 ? 0 : 1);
        Check.due("z", x.seed(1), hardness == 0 ? 1 : 48271);
        return hardness;
    }

    private static void temper() {
        Class<?> unfit = UnsupportedOperationException.class;
        range("temper's degrees", 100, 400, Shops::hardFile, (x, number) -> x.temper(0, number));
        unfit("temper's degrees, blank", 100, 400, unfit, Shops::file, (x, number) -> x.temper(0, number));
        unfit("temper's degrees, soft", 100, 400, unfit, Shops::softFile, (x, number) -> x.temper(0, number));
        unfit("temper's degrees, cracked", 100, 400, unfit, () -> Shops.crackedTool('f'),
                (x, number) -> x.temper(0, number));
        Check.due("the last below a whole 25", Shops.hardFile().temper(0, 399), 58 - 15);
        for (int degrees = 100; degrees <= 400; degrees++) {
            Check.due("temper by " + degrees, Shops.hardFile().temper(0, degrees), 58 - degrees / 25);
        }
        // By 100 a hardness of 12 becomes 8, of which 175 takes 7, 150 takes 6 and 200 would take all.
        Check.due("just down to 1", softest(100, 175).hardness(0), 1);
        Check.due("one above", softest(100, 150).hardness(0), 2);
        Check.due("not below 1", softest(100, 200).hardness(0), 1);
        Check.due("far below 1", softest(400, 400).hardness(0), 1);
    }

    /** A file of the hardness 28, tempered by 400, and then by these. */
    private static Teethrow softest(int second, int third) {
        Teethrow x = Shops.blank('f', 60, 40, 40);
        x.cut(0, 'b', 1);
        Check.due("harden", x.harden(0, 900, 'w'), 28);
        Check.due("temper", x.temper(0, 400), 12);
        x.temper(0, second);
        x.temper(0, third);
        return x;
    }

    private static void straighten() {
        Class<?> unfit = UnsupportedOperationException.class;
        range("straighten's by", 1, 6, Shops::warmFile, (x, number) -> x.straighten(0, number));
        range("straighten's by, once more", 1, 6, () -> straightened(1), (x, number) -> x.straighten(0, number));
        unfit("straighten's by, twice", 1, 6, unfit, () -> straightened(2), (x, number) -> x.straighten(0, number));
        unfit("straighten's by, cold", 1, 6, unfit, Shops::hardFile, (x, number) -> x.straighten(0, number));
        unfit("straighten's by, blank", 1, 6, unfit, Shops::file, (x, number) -> x.straighten(0, number));
        unfit("straighten's by, soft", 1, 6, unfit, Shops::softFile, (x, number) -> x.straighten(0, number));
        unfit("straighten's by, cracked", 1, 6, unfit, () -> Shops.crackedTool('f'),
                (x, number) -> x.straighten(0, number));
        for (int by = 1; by <= 6; by++) {
            Check.due("a bend of 7 by " + by, bent(7).straighten(0, by), 7 - by);
            Check.due("just to 0 by " + by, bent(by).straighten(0, by), 0);
            Check.due("not below 0 by " + by, bent(by - 1).straighten(0, by), 0);
        }
        Teethrow x = Shops.warmFile();
        x.straighten(0, 1);
        Check.due("a bend of 0 can be straightened", x.straighten(0, 6), 0);
    }

    private static Teethrow straightened(int times) {
        Teethrow x = Shops.warmFile();
        for (int i = 0; i < times; i++) {
            x.straighten(0, 1);
        }
        return x;
    }

    /** A warm file of this bend, 0 to 7: brine makes 6 and 1. */
    private static Teethrow bent(int bend) {
        Teethrow x = Shops.blank('f', 200, 20, 100);
        x.cut(0, 'm', 1);
        x.harden(0, 850, 'b');
        for (int lacks = 7 - bend; lacks > 0; lacks--) {
            x.temper(0, 100);
            x.straighten(0, 1);
        }
        x.temper(0, 100);
        Check.due("bend", x.bend(0), bend);
        return x;
    }

    private static void seed() {
        range("seed", 1, 2147483646, Shops::hardFile, (x, number) -> x.seed(number));
        range("seed of a new one", 1, 2147483646, Teethrow::new, (x, number) -> x.seed(number));
        Check.due("the last z goes round", hardenedBy(2147483646), 2147483647 - 48271);
        // The first z above the modulus by the factor: 44489 times 48271 is 2147528519.
        Check.due("the first that goes round", hardenedBy(44489), 2147528519L - 2147483647L);
        Check.due("the last that does not", hardenedBy(44488), 44488L * 48271);
    }

    private static long hardenedBy(int z) {
        Teethrow x = Shops.softFile();
        x.seed(z);
        x.harden(0, 850, 'w');
        long next = x.seed(1);
        Check.due("bend by " + z, x.bend(0), next % 5);
        return next;
    }

    private static void strokes() {
        Class<?> unfit = UnsupportedOperationException.class;
        Check.NumberedCall metal = (x, number) -> x.strokes(0, number, 1);
        Check.NumberedCall strokes = (x, number) -> x.strokes(0, 20, number);
        range("strokes' metal", 1, 70, Shops::warmFile, metal);
        range("strokes", 1, 40, Shops::warmFile, strokes);
        unfit("strokes' metal, blank", 1, 70, unfit, Shops::file, metal);
        unfit("strokes, blank", 1, 40, unfit, Shops::file, strokes);
        unfit("strokes' metal, soft", 1, 70, unfit, Shops::softFile, metal);
        unfit("strokes, soft", 1, 40, unfit, Shops::softFile, strokes);
        unfit("strokes' metal, cracked", 1, 70, unfit, () -> Shops.crackedTool('f'), metal);
        unfit("strokes, cracked", 1, 40, unfit, () -> Shops.crackedTool('f'), strokes);
        eachStrokeIsDone();
        eachDifferenceBites();
        eachWearLowers();
    }

    /** On a metal that is as hard nothing falls into the gullets, so that no stroke is stopped. */
    private static void eachStrokeIsDone() {
        for (int strokes = 1; strokes <= 40; strokes++) {
            Teethrow x = softest(400, 400);
            Check.due("bitten by the hardness 1", x.strokes(0, 1, strokes), 0);
            Check.due("wear of " + strokes, x.wear(0, 8), strokes);
            Check.due("height of " + strokes, x.height(0, 8), 9);
        }
        Teethrow x = softest(400, 400);
        x.strokes(0, 1, 40);
        x.strokes(0, 1, 40);
        x.strokes(0, 1, 19);
        Check.due("wear, 99 at most", x.wear(0, 0), 99);
        Check.due("height behind 99", x.height(0, 0), 9);
        x.strokes(0, 1, 1);
        Check.due("wear behind 100", x.wear(0, 0), 0);
        Check.due("height behind 100", x.height(0, 0), 8);
    }

    /** A tool of 66, the hardest, whose 9 high teeth bite up to 7; the metals go beyond it. */
    private static void eachDifferenceBites() {
        for (int metal = 1; metal <= 70; metal++) {
            Teethrow x = Shops.blank('f', 60, 40, 140);
            x.cut(0, 'b', 1);
            Check.due("the hardest", x.harden(0, 850, 'b'), 66);
            int each = metal >= 66 ? 0 : 1 + (66 - metal) / 10;
            Check.due("bitten on " + metal, x.strokes(0, metal, 1), 9 * each);
            Check.due("wear on " + metal, x.wear(0, 8), metal);
        }
    }

    private static void eachWearLowers() {
        Teethrow x = Shops.hardFile();
        for (int strokes = 1; strokes <= 20; strokes++) {
            x.strokes(0, 70, 1);
            int wear = Math.min(strokes * 70, 910);
            Check.due("height behind " + strokes, x.height(0, 3), 9 - wear / 100);
            Check.due("wear behind " + strokes, x.wear(0, 3), wear % 100);
        }
    }

    private static void recutsLeft() {
        signs("recutsLeft's name", "bsm", Shops::hardFile, (x, sign) -> x.recutsLeft(0, sign));
        signs("recutsLeft's name, blank", "bsm", Shops::file, (x, sign) -> x.recutsLeft(0, sign));
        signs("recutsLeft's name, cracked", "bsm", () -> Shops.crackedTool('s'), (x, sign) -> x.recutsLeft(0, sign));
        char[] shapes = {'f', 'h', 's'};
        char[] names = {'b', 's', 'm'};
        for (char shape : shapes) {
            for (char name : names) {
                int depth = (name == 'b' ? 9 : name == 's' ? 6 : 4) - (shape == 'h' ? 1 : 0);
                Check.due("ground to 20", cut(shape, 22 + depth, name).grind(0), 20);
                Check.due("one recut", cut(shape, 22 + depth, name).recutsLeft(0, name), 1);
                Check.due("no recut", cut(shape, 21 + depth, name).recutsLeft(0, name), 0);
                Check.refused("ground to 19", UnsupportedOperationException.class,
                        () -> cut(shape, 21 + depth, name), x -> x.grind(0));
                Check.due("just two recuts", cut(shape, 24 + 2 * depth, name).recutsLeft(0, name), 2);
                Check.due("not two recuts", cut(shape, 23 + 2 * depth, name).recutsLeft(0, name), 1);
            }
        }
    }

    private static Teethrow cut(char shape, int thickness, char name) {
        Teethrow x = Shops.blank(shape, 60, thickness, 100);
        x.cut(0, name, 1);
        return x;
    }

    private static void order() {
        Class<?> six = IllegalStateException.class;
        Supplier<Teethrow> one = Shops::goodFile;
        range("order's many", 1, 8, one, (x, number) -> x.order('f', 'b', number));
        signs("order's shape", "fhs", one, (x, sign) -> x.order(sign, 'b', 1));
        signs("order's name", "bsm", one, (x, sign) -> x.order('f', sign, 1));
        unfit("order's many, full", 1, 8, six, RangesTest::sixOrders, (x, number) -> x.order('f', 'b', number));
        otherSigns("order's shape, full", "fhs", RangesTest::sixOrders, (x, sign) -> x.order(sign, 'b', 1));
        otherSigns("order's name, full", "bsm", RangesTest::sixOrders, (x, sign) -> x.order('f', sign, 1));
    }

    private static void teethOfARow() {
        for (char name : new char[] {'b', 's', 'm'}) {
            Supplier<Teethrow> setup = () -> Shops.cut('f', name, 2);
            int many = setup.get().teeth(0);
            for (int tooth : new int[] {-1, many, many + 1, many + 256, 65536, -many, Integer.MIN_VALUE,
                Integer.MAX_VALUE}) {
                Check.missing("place " + tooth, setup, x -> x.place(0, tooth));
                Check.missing("height " + tooth, setup, x -> x.height(0, tooth));
                Check.missing("wear " + tooth, setup, x -> x.wear(0, tooth));
            }
            Check.due("the first place", setup.get().place(0, 0), 0);
            Check.due("the last is below the length", setup.get().place(0, many - 1) < 60, true);
        }
    }

    /** A refused call leaves a tool warm, and straightened as often as it was. */
    private static void refusedInTheWarm() {
        for (int times = 0; times <= 2; times++) {
            int done = times;
            Supplier<Teethrow> setup = () -> {
                Teethrow x = straightened(done);
                x.order('s', 'm', 1);
                return x;
            };
            Class<?> unfit = UnsupportedOperationException.class;
            Check.refused("set in the warm", unfit, setup, x -> x.set(0, 1));
            Check.refused("cut in the warm", unfit, setup, x -> x.cut(0, 'b', 1));
            Check.refused("upcut in the warm", unfit, setup, x -> x.upcut(0));
            Check.refused("harden in the warm", unfit, setup, x -> x.harden(0, 850, 'o'));
            Check.refused("grind in the warm", unfit, setup, x -> x.grind(0));
            Check.refused("send in the warm", unfit, setup, x -> x.send(0, 0));
            Check.refused("temper in the warm", IllegalArgumentException.class, setup, x -> x.temper(0, 99));
            Check.refused("strokes in the warm", IllegalArgumentException.class, setup, x -> x.strokes(0, 71, 1));
            Check.refused("soften of none", IndexOutOfBoundsException.class, setup, x -> x.soften(1));
            Check.refused("brush of none", IndexOutOfBoundsException.class, setup, x -> x.brush(1));
        }
    }
}
