import java.util.function.Supplier;

/** The promises 15 to 20. */
public final class HardeningTest {
    private static final long MODULUS = 2147483647L;

    private HardeningTest() {
    }

    public static void main(String[] args) {
        baths();
        heat();
        tooCold();
        bends();
        cracks();
        hardenRefused();
        hardnessAndBend();
        temper();
        temperRefused();
        straighten();
        coldAgain();
        straightenRefused();
        seed();
        Check.end();
    }

    private static int hardened(int carbon, int degrees, char bath) {
        Teethrow x = Shops.blank('f', 60, 40, carbon);
        x.cut(0, 'b', 1);
        int hardness = x.harden(0, degrees, bath);
        Check.due("hardness", x.hardness(0), hardness);
        Check.due("state", x.state(0), 'h');
        return hardness;
    }

    private static void baths() {
        Check.due("oil", hardened(100, 850, 'o'), 54);
        Check.due("water", hardened(100, 850, 'w'), 58);
        Check.due("brine", hardened(100, 850, 'b'), 62);
        Check.due("odd carbon", hardened(101, 850, 'o'), 54);
        Check.due("66 at most", hardened(140, 850, 'o'), 66);
        Check.due("just 66", hardened(108, 850, 'b'), 66);
        Check.due("just below 66", hardened(107, 850, 'b'), 65);
        Check.due("least carbon", hardened(40, 860, 'o'), 24);
    }

    private static void heat() {
        Check.due("900", hardened(100, 900, 'o'), 54);
        Check.due("919", hardened(100, 919, 'o'), 54);
        Check.due("920", hardened(100, 920, 'o'), 53);
        Check.due("939", hardened(100, 939, 'o'), 53);
        Check.due("1200", hardened(100, 1200, 'o'), 39);
        Check.due("1200, least carbon", hardened(40, 1200, 'o'), 9);
        // The cap of 66 comes behind the heat: 70 and 12, less 10.
        Check.due("hot and capped", hardened(140, 1100, 'b'), 66);
        Check.due("hot, below the cap", hardened(140, 1200, 'o'), 59);
    }

    private static void tooCold() {
        Teethrow x = Shops.softFile();
        long before = x.checksum();
        Check.due("one degree too few", x.harden(0, 799, 'w'), 0);
        Check.due("least degrees", x.harden(0, 600, 'w'), 0);
        Check.due("soft", x.state(0), 's');
        Check.due("hardness", x.hardness(0), 0);
        Check.due("bend", x.bend(0), 0);
        Check.due("no more is done", x.checksum(), before);
        Check.due("just warm", x.harden(0, 800, 'w'), 58);
        Check.due("z", x.seed(1), 48271);
        Check.due("least carbon, too cold", coldOne(859), 0);
        Check.due("least carbon", coldOne(860), 24);
    }

    private static int coldOne(int degrees) {
        Teethrow x = Shops.blank('f', 60, 40, 40);
        x.cut(0, 'b', 1);
        return x.harden(0, degrees, 'o');
    }

    private static void bends() {
        Check.due("0 and 1", bent(50, 40, 'o', 1), 1);
        Check.due("5 and 1", bent(190, 22, 'b', 1), 6);
        Check.due("5.99 and 1", bent(199, 20, 'b', 1), 6);
        Check.due("6 and 1", bent(200, 20, 'b', 1), 7);
        Check.due("4 and 1", bent(200, 20, 'w', 1), 5);
        Check.due("2 and 1", bent(200, 20, 'o', 1), 3);
        long z = 2147483646L;
        Check.due("the last z", bent(200, 20, 'o', (int) z), 2 + (int) (z * 48271 % MODULUS % 5));
        z = 5;
        Check.due("z of 5", bent(200, 20, 'o', 5), 2 + (int) (z * 48271 % MODULUS % 5));
        Teethrow x = Shops.blank('f', 200, 30, 100);
        x.cut(0, 'm', 1);
        z = 1;
        int bend = 0;
        for (int i = 0; i < 4; i++) {
            x.harden(0, 850, 'o');
            z = z * 48271 % MODULUS;
            bend += 4 * 200 / (20 * 30) + (int) (z % 5);
            Check.due("bend, each time", x.bend(0), bend);
            Check.due("state", x.state(0), 'h');
            x.soften(0);
            Check.due("bend softened", x.bend(0), bend);
        }
        Check.due("z behind four", x.seed(1), z);
    }

    private static int bent(int length, int thickness, char bath, int z) {
        Teethrow x = Shops.blank('f', length, thickness, 100);
        x.cut(0, 'm', 1);
        x.seed(z);
        x.harden(0, 850, bath);
        return x.bend(0);
    }

    private static void cracks() {
        Teethrow x = Shops.blank('f', 200, 20, 140);
        x.cut(0, 'm', 1);
        hardenTo(x, 30);
        Check.due("a bend of 30", x.state(0), 'h');
        x.soften(0);
        Check.due("a cracked one's hardness", x.harden(0, 850, 'b'), 66);
        Check.due("a bend above 30", x.state(0), 'c');
        Check.due("hardness stays", x.hardness(0), 66);
        Check.due("more than 30", x.bend(0) > 30, true);
        Check.due("teeth stay", x.teeth(0), 51);
        x.brush(0);
        Check.due("a cracked one stays so", x.state(0), 'c');
        Teethrow y = Shops.blank('f', 200, 20, 140);
        y.cut(0, 'm', 1);
        hardenTo(y, 31);
        Check.due("a bend of 31", y.state(0), 'c');
    }

    /** Hardens by a z that is looked for each time, until the bend is this. */
    private static void hardenTo(Teethrow x, int bend) {
        while (x.bend(0) < bend) {
            if (x.state(0) == 'h') {
                x.soften(0);
            }
            int lacks = bend - x.bend(0) - 2;
            x.seed(seedFor(lacks >= 5 ? 3 : lacks));
            x.harden(0, 850, 'o');
        }
        Check.due("the bend that is looked for", x.bend(0), bend);
    }

    private static int seedFor(int rest) {
        int z = 1;
        while (z * 48271L % MODULUS % 5 != rest) {
            z++;
        }
        return z;
    }

    private static void hardenRefused() {
        Check.refusedNumbers("harden", Shops::softFile, (x, tool) -> x.harden(tool, 850, 'w'));
        Check.refused("harden of none, and wrong", IndexOutOfBoundsException.class, Shops::softFile,
                x -> x.harden(1, 599, 'x'));
        for (char bath : new char[] {'x', 'W', 's', 'f', 0, 0xffff}) {
            Check.refused("bath " + (int) bath, IllegalArgumentException.class, Shops::softFile,
                    x -> x.harden(0, 850, bath));
            Check.refused("bath too cold " + (int) bath, IllegalArgumentException.class, Shops::softFile,
                    x -> x.harden(0, 600, bath));
        }
        for (int degrees : new int[] {599, 1201, 0, -850, Integer.MIN_VALUE, Integer.MAX_VALUE}) {
            Check.refused("degrees " + degrees, IllegalArgumentException.class, Shops::softFile,
                    x -> x.harden(0, degrees, 'w'));
            Check.refused("degrees of a blank " + degrees, IllegalArgumentException.class, Shops::file,
                    x -> x.harden(0, degrees, 'w'));
        }
        refusedState("harden without teeth", Shops::file);
        refusedState("harden of a hard one", Shops::warmFile);
        refusedState("harden of a cracked one", () -> Shops.crackedTool('f'));
        Check.refused("harden without teeth, too cold", UnsupportedOperationException.class, Shops::file,
                x -> x.harden(0, 600, 'w'));
    }

    private static void refusedState(String what, Supplier<Teethrow> setup) {
        Check.refused(what, UnsupportedOperationException.class, setup, x -> x.harden(0, 850, 'w'));
    }

    private static void hardnessAndBend() {
        Check.due("hardness of a blank", Shops.file().hardness(0), 0);
        Check.due("bend of a blank", Shops.file().bend(0), 0);
        Check.refusedNumbers("hardness", Shops::hardFile, (x, tool) -> x.hardness(tool));
        Check.refusedNumbers("bend", Shops::hardFile, (x, tool) -> x.bend(tool));
        Teethrow x = Shops.hardFile();
        x.soften(0);
        Check.due("hardness softened", x.hardness(0), 0);
        Check.due("bend softened", x.bend(0), 1);
        x.grind(0);
        Check.due("bend ground", x.bend(0), 1);
    }

    private static void temper() {
        Check.due("100", tempered(100), 54);
        Check.due("124", tempered(124), 54);
        Check.due("125", tempered(125), 53);
        Check.due("150", tempered(150), 52);
        Check.due("400", tempered(400), 42);
        Teethrow x = Shops.hardFile();
        for (int i = 0; i < 3; i++) {
            x.temper(0, 400);
        }
        Check.due("58 less 48", x.hardness(0), 10);
        x.temper(0, 200);
        Check.due("2", x.temper(0, 100), 1);
        Check.due("1 at least", x.temper(0, 400), 1);
        Check.due("hard stays", x.state(0), 'h');
    }

    private static int tempered(int degrees) {
        Teethrow x = Shops.hardFile();
        int hardness = x.temper(0, degrees);
        Check.due("hardness", x.hardness(0), hardness);
        Check.due("bend stays", x.bend(0), 1);
        return hardness;
    }

    private static void temperRefused() {
        Check.refusedNumbers("temper", Shops::hardFile, (x, tool) -> x.temper(tool, 200));
        Check.refused("temper of none, and wrong", IndexOutOfBoundsException.class, Shops::hardFile,
                x -> x.temper(1, 99));
        for (int degrees : new int[] {99, 401, 0, -200, Integer.MIN_VALUE, Integer.MAX_VALUE}) {
            Check.refused("temper " + degrees, IllegalArgumentException.class, Shops::hardFile,
                    x -> x.temper(0, degrees));
            Check.refused("temper soft " + degrees, IllegalArgumentException.class, Shops::file,
                    x -> x.temper(0, degrees));
        }
        Check.refused("temper of a soft one", UnsupportedOperationException.class, Shops::softFile,
                x -> x.temper(0, 200));
        Check.refused("temper of a cracked one", UnsupportedOperationException.class, () -> Shops.crackedTool('f'),
                x -> x.temper(0, 200));
    }

    private static Teethrow bentWarm() {
        Teethrow x = Shops.blank('f', 200, 20, 140);
        x.cut(0, 'm', 1);
        hardenTo(x, 20);
        x.temper(0, 100);
        return x;
    }

    private static void straighten() {
        Teethrow x = bentWarm();
        Check.due("by 6", x.straighten(0, 6), 14);
        Check.due("by 1", x.straighten(0, 1), 13);
        Check.due("bend", x.bend(0), 13);
        Check.due("hardness stays", x.hardness(0), 62);
        x.temper(0, 100);
        Check.due("in the next warm", x.straighten(0, 6), 7);
        x.temper(0, 100);
        Check.due("tempered ahead of the second", x.straighten(0, 6), 1);
        Check.due("0 at least", x.straighten(0, 2), 0);
        Check.refused("a third, tempered between", UnsupportedOperationException.class, () -> {
            Teethrow y = bentWarm();
            y.straighten(0, 1);
            y.temper(0, 100);
            y.straighten(0, 1);
            y.straighten(0, 1);
            return y;
        }, y -> y.straighten(0, 1));
    }

    private static void coldAgain() {
        cold("tried", () -> {
            Teethrow x = bentWarm();
            x.strokes(0, 10, 1);
            return x;
        });
        cold("tried with full gullets", () -> {
            Teethrow x = bentWarm();
            x.strokes(0, 1, 40);
            x.temper(0, 100);
            x.strokes(0, 1, 1);
            return x;
        });
        cold("brushed", () -> {
            Teethrow x = bentWarm();
            x.brush(0);
            return x;
        });
        cold("brushed behind the first", () -> {
            Teethrow x = bentWarm();
            x.straighten(0, 1);
            x.brush(0);
            return x;
        });
        cold("softened", () -> {
            Teethrow x = bentWarm();
            x.soften(0);
            return x;
        });
        cold("softened and hardened", () -> {
            Teethrow x = bentWarm();
            x.soften(0);
            x.harden(0, 850, 'o');
            return x;
        });
        Teethrow x = bentWarm();
        x.seed(9);
        x.chips(0);
        x.checksum();
        x.isSound();
        x.order('f', 'm', 1);
        x.blank('s', 50, 40, 100);
        x.cut(1, 'b', 1);
        x.set(1, 2);
        x.brush(1);
        Check.due("warm behind all else", x.straighten(0, 6), 14);
    }

    private static void cold(String what, Supplier<Teethrow> setup) {
        Check.refused("straighten, " + what, UnsupportedOperationException.class, setup, x -> x.straighten(0, 1));
    }

    private static void straightenRefused() {
        Check.refusedNumbers("straighten", HardeningTest::bentWarm, (x, tool) -> x.straighten(tool, 2));
        Check.refused("straighten of none, and wrong", IndexOutOfBoundsException.class, HardeningTest::bentWarm,
                x -> x.straighten(1, 7));
        for (int by : new int[] {0, 7, -1, Integer.MIN_VALUE, Integer.MAX_VALUE}) {
            Check.refused("straighten by " + by, IllegalArgumentException.class, HardeningTest::bentWarm,
                    x -> x.straighten(0, by));
            Check.refused("straighten soft by " + by, IllegalArgumentException.class, Shops::file,
                    x -> x.straighten(0, by));
        }
        cold("a blank", Shops::file);
        cold("not tempered", Shops::hardFile);
        cold("cracked", () -> Shops.crackedTool('f'));
        cold("twice", () -> {
            Teethrow x = bentWarm();
            x.straighten(0, 1);
            x.straighten(0, 1);
            return x;
        });
    }

    private static void seed() {
        Teethrow x = new Teethrow();
        Check.due("1 at first", x.seed(2147483646), 1);
        Check.due("most", x.seed(1), 2147483646);
        Check.due("least", x.seed(77), 1);
        Check.due("before", x.seed(77), 77);
        for (int z : new int[] {0, -1, Integer.MIN_VALUE, 2147483647}) {
            Check.refused("seed " + z, IllegalArgumentException.class, Shops::hardFile, y -> y.seed(z));
        }
    }
}
