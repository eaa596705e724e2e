import java.util.function.Consumer;
import java.util.function.Supplier;

/** The promises 29 to 36. */
public final class OrdersTest {
    private OrdersTest() {
    }

    public static void main(String[] args) {
        order();
        goodAndNot();
        upcutAside();
        isGoodRefused();
        send();
        sendRefused();
        sent();
        wornShare();
        meanHardness();
        checksum();
        isSound();
        Check.end();
    }

    private static void order() {
        Teethrow x = new Teethrow();
        Check.due("first", x.order('f', 'b', 1), 0);
        Check.due("second", x.order('h', 's', 8), 1);
        Check.due("third", x.order('s', 'm', 8), 2);
        for (char shape : new char[] {'x', 'b', 'm', 'F', 0, 0xffff}) {
            refusedOrder(shape, 'b', 1);
        }
        for (char name : new char[] {'x', 'f', 'h', 'B', 0, 0xffff}) {
            refusedOrder('f', name, 1);
        }
        for (int many : new int[] {0, 9, -1, Integer.MIN_VALUE, Integer.MAX_VALUE}) {
            refusedOrder('f', 'b', many);
        }
        Check.refused("a seventh", IllegalStateException.class, OrdersTest::six, y -> y.order('f', 'b', 1));
        Check.refused("a seventh that is wrong", IllegalArgumentException.class, OrdersTest::six,
                y -> y.order('f', 'b', 9));
    }

    private static Teethrow six() {
        Teethrow x = new Teethrow();
        for (int i = 0; i < 6; i++) {
            Check.due("number", x.order('f', 's', i + 1), i);
        }
        return x;
    }

    private static void refusedOrder(char shape, char name, int many) {
        Check.refused("order " + (int) shape + " " + (int) name + " " + many, IllegalArgumentException.class,
                Shops::goodFile, x -> x.order(shape, name, many));
    }

    private static void good(String what, boolean want, Supplier<Teethrow> setup) {
        Teethrow x = setup.get();
        long before = x.checksum();
        Check.due("isGood, " + what, x.isGood(0, 0), want);
        Check.due("checksum, " + what, x.checksum(), before);
        if (want) {
            Check.due("send, " + what, x.send(0, 0), 1);
        } else {
            Check.refused("send, " + what, UnsupportedOperationException.class, setup, y -> y.send(0, 0));
        }
    }

    private static Supplier<Teethrow> with(Consumer<Teethrow> more) {
        return () -> {
            Teethrow x = Shops.goodFile();
            more.accept(x);
            return x;
        };
    }

    /** A flat one, second cut, with an order for such, of this carbon, spread, bath and z. */
    private static Supplier<Teethrow> hardened(int carbon, int spread, char bath, int z) {
        return () -> {
            Teethrow x = Shops.blank('f', 50, 90, carbon);
            x.cut(0, 's', spread);
            x.seed(z);
            x.harden(0, 1000, bath);
            x.order('f', 's', 1);
            return x;
        };
    }

    private static void goodAndNot() {
        good("as it is", true, Shops::goodFile);
        good("of another shape", false, otherOrder('h', 's'));
        good("of another cut", false, otherOrder('f', 'b'));
        good("soft", false, with(x -> x.soften(0)));
        good("softened, hardened", true, with(x -> {
            x.soften(0);
            x.seed(1);
            x.harden(0, 850, 'o');
        }));
        good("of the hardness 50", true, hardened(102, 1, 'o', 1));
        good("of the hardness 49", false, hardened(100, 1, 'o', 1));
        good("of the bend 3", true, hardened(120, 1, 'o', 3));
        good("of the bend 4", false, hardened(120, 1, 'o', 4));
        good("that sings", false, hardened(120, 0, 'o', 1));
        good("with wear", false, with(x -> x.strokes(0, 1, 1)));
        good("with a tooth lower, without wear", false, with(x -> x.strokes(0, 50, 2)));
        good("of the bend 4, straightened", true, () -> {
            Teethrow x = hardened(120, 1, 'o', 4).get();
            x.temper(0, 100);
            x.straighten(0, 1);
            return x;
        });
        good("a blank", false, () -> {
            Teethrow x = Shops.file();
            x.order('f', 's', 1);
            return x;
        });
        good("cracked", false, () -> {
            Teethrow x = Shops.crackedTool('f');
            x.order('f', 'm', 1);
            return x;
        });
        good("ground and cut otherwise", false, with(x -> {
            x.soften(0);
            x.grind(0);
            x.cut(0, 'b', 1);
            x.harden(0, 850, 'o');
        }));
        good("worn, ground and cut again", true, with(x -> {
            x.strokes(0, 50, 3);
            x.soften(0);
            x.grind(0);
            x.cut(0, 's', 1);
            x.seed(1);
            x.harden(0, 850, 'o');
        }));
    }

    private static Supplier<Teethrow> otherOrder(char shape, char name) {
        return () -> {
            Teethrow x = Shops.blank('f', 50, 90, 120);
            x.cut(0, 's', 1);
            x.harden(0, 850, 'o');
            x.order(shape, name, 1);
            return x;
        };
    }

    private static void upcutAside() {
        good("upcut", true, () -> upcutFile(0));
        good("upcut and worn", false, () -> upcutFile(1));
        good("upcut and lower by one", false, () -> upcutFile(2));
        good("worn, then upcut", false, () -> {
            Teethrow x = Shops.goodFile();
            x.strokes(0, 50, 2);
            x.soften(0);
            x.upcut(0);
            x.seed(1);
            x.harden(0, 850, 'o');
            x.temper(0, 100);
            x.straighten(0, 3);
            return x;
        });
        Teethrow saw = Shops.blank('s', 50, 90, 120);
        saw.cut(0, 's', 1);
        saw.set(0, 5);
        saw.harden(0, 850, 'o');
        saw.order('s', 's', 1);
        Check.due("a saw that is set", saw.isGood(0, 0), true);
    }

    private static Teethrow upcutFile(int strokes) {
        Teethrow x = Shops.blank('f', 50, 90, 120);
        x.cut(0, 's', 1);
        x.upcut(0);
        x.harden(0, 850, 'o');
        x.order('f', 's', 1);
        if (strokes > 0) {
            x.strokes(0, 50, strokes);
        }
        return x;
    }

    private static void isGoodRefused() {
        Check.refusedNumbers("isGood", Shops::goodFile, (x, tool) -> x.isGood(tool, 0));
        Check.refusedNumbers("isGood of no order", Shops::goodFile, (x, order) -> x.isGood(0, order));
        Check.refused("isGood, gone", IndexOutOfBoundsException.class, with(x -> x.send(0, 0)), x -> x.isGood(0, 0));
        Check.refused("isGood, order 6", IndexOutOfBoundsException.class, OrdersTest::six, x -> x.isGood(0, 6));
    }

    private static void send() {
        Teethrow x = Shops.goodFile();
        x.order('f', 's', 2);
        for (int i = 1; i < 4; i++) {
            x.blank('f', 50, 90, 120);
            x.cut(i, 's', 1);
            x.seed(1);
            x.harden(i, 850, 'o');
        }
        Check.due("first", x.send(1, 1), 1);
        Check.due("isGood for it still", x.isGood(2, 1), true);
        Check.due("second", x.send(3, 1), 2);
        Check.due("isGood, full aside", x.isGood(2, 1), true);
        Check.due("for another order", x.send(2, 0), 1);
        Check.due("a number is not given again", x.blank('f', 50, 90, 120), 4);
        Check.due("the others stay", x.hardness(0), 64);
        for (int gone = 1; gone < 4; gone++) {
            int tool = gone;
            Check.due("gone " + tool, Check.outcome(() -> x.teeth(tool)),
                    "throws java.lang.IndexOutOfBoundsException");
            Check.due("brush gone " + tool, Check.outcome(() -> x.brush(tool)),
                    "throws java.lang.IndexOutOfBoundsException");
            Check.due("send gone " + tool, Check.outcome(() -> x.send(tool, 0)),
                    "throws java.lang.IndexOutOfBoundsException");
        }
    }

    private static void sendRefused() {
        Check.refusedNumbers("send", Shops::goodFile, (x, tool) -> x.send(tool, 0));
        Check.refusedNumbers("send for no order", Shops::goodFile, (x, order) -> x.send(0, order));
        Check.refused("send for a full order", UnsupportedOperationException.class, with(x -> {
            x.blank('f', 50, 90, 120);
            x.cut(1, 's', 1);
            x.seed(1);
            x.harden(1, 850, 'o');
            x.send(1, 0);
        }), x -> x.send(0, 0));
        Check.refused("send again", IndexOutOfBoundsException.class, with(x -> x.send(0, 0)), x -> x.send(0, 0));
    }

    private static void sent() {
        Teethrow x = Shops.goodFile();
        x.order('h', 'm', 3);
        Check.due("none", x.sent(0), 0);
        x.send(0, 0);
        Check.due("one", x.sent(0), 1);
        Check.due("none for the other", x.sent(1), 0);
        Check.refusedNumbers("sent", Shops::goodFile, (y, order) -> y.sent(order));
        Check.refused("sent, order 6", IndexOutOfBoundsException.class, OrdersTest::six, y -> y.sent(6));
        Check.due("sent, order 5", six().sent(5), 0);
    }

    private static void wornShare() {
        Check.refused("wornShare of none", ArithmeticException.class, Teethrow::new, x -> x.wornShare());
        Check.refused("wornShare of a blank", ArithmeticException.class, Shops::file, x -> x.wornShare());
        Check.refused("wornShare, all gone", ArithmeticException.class, with(x -> x.send(0, 0)), x -> x.wornShare());
        Teethrow x = Shops.softFile();
        Check.due("soft", x.wornShare(), 0.0f);
        x.upcut(0);
        Check.due("upcut aside", x.wornShare(), 0.0f);
        x.harden(0, 850, 'w');
        x.strokes(0, 70, 1);
        Check.due("wear alone", x.wornShare(), 0.0f);
        x.strokes(0, 70, 1);
        Check.due("all", x.wornShare(), 1.0f);
        x.blank('s', 60, 40, 100);
        Check.due("a blank has none", x.wornShare(), 1.0f);
        x.cut(1, 'm', 1);
        Check.due("9 of 24", x.wornShare(), (float) 9 / (float) 24);
        x.soften(0);
        Check.due("soft, too", x.wornShare(), (float) 9 / (float) 24);
        x.grind(0);
        Check.due("ground", x.wornShare(), 0.0f);
        Check.due("a third", third().wornShare(), (float) 3 / (float) 9);
        Teethrow worn = Shops.hardFile();
        worn.strokes(0, 70, 17);
        worn.soften(0);
        worn.upcut(0);
        Check.due("worn to 0, then upcut", worn.wornShare(), 1.0f);
    }

    /** Nine teeth of which the first three have lost height. */
    private static Teethrow third() {
        Teethrow x = Shops.hardFile();
        x.strokes(0, 20, 3);
        x.brush(0);
        x.strokes(0, 20, 2);
        return x;
    }

    private static void meanHardness() {
        Check.refused("meanHardness of none", ArithmeticException.class, Teethrow::new, x -> x.meanHardness());
        Check.refused("meanHardness, soft", ArithmeticException.class, Shops::softFile, x -> x.meanHardness());
        Check.refused("meanHardness, cracked", ArithmeticException.class, () -> Shops.crackedTool('f'),
                x -> x.meanHardness());
        Check.refused("meanHardness, gone", ArithmeticException.class, with(x -> x.send(0, 0)),
                x -> x.meanHardness());
        Teethrow x = Shops.hardFile();
        Check.due("one", x.meanHardness(), 58.0);
        x.blank('f', 60, 40, 100);
        x.cut(1, 'm', 1);
        Check.due("a soft one aside", x.meanHardness(), 58.0);
        x.harden(1, 850, 'b');
        x.blank('f', 60, 40, 101);
        x.cut(2, 'm', 1);
        x.harden(2, 921, 'o');
        Check.due("three", x.meanHardness(), (double) (58 + 62 + 53) / (double) 3);
    }

    private static void checksum() {
        Teethrow x = Shops.blank('f', 50, 40, 100);
        Check.due("a blank", x.checksum(), plus(7, 40, 0, 0, 1));
        x.cut(0, 'b', 3);
        Check.due("teeth", x.checksum(), plus(7, 40, 0, 0, 9, 9, 9, 9, 9, 9, 1));
        x.harden(0, 850, 'w');
        Check.due("hard", x.checksum(), plus(7, 40, 58, 1 + 8 * 50 / 800, 9, 9, 9, 9, 9, 9, 48271));
        x.strokes(0, 51, 2);
        x.blank('s', 60, 22, 44);
        Check.due("two", x.checksum(), plus(7, 40, 58, 1, 8, 8, 8, 8, 8, 8, 22, 0, 0, 48271));
        x.seed(2147483646);
        Check.due("z", x.checksum(), plus(7, 40, 58, 1, 8, 8, 8, 8, 8, 8, 22, 0, 0, 2147483646));
        Teethrow y = Shops.goodFile();
        y.blank('s', 60, 22, 44);
        y.send(0, 0);
        Check.due("one gone", y.checksum(), plus(7, 22, 0, 0, 48271));
        Teethrow z = Shops.crackedTool('f');
        long due = plus(7, 20, 66, z.bend(0));
        for (int i = 0; i < z.teeth(0); i++) {
            due = plus(due, 4);
        }
        long told = z.checksum();
        Check.due("cracked", told, plus(due, z.seed(1)));
    }

    private static long plus(long sum, int... numbers) {
        long all = sum;
        for (int number : numbers) {
            all = 31 * all + number;
        }
        return all;
    }

    private static void isSound() {
        Teethrow x = Shops.hardSaw();
        Check.due("hard", x.isSound(), true);
        x.set(0, 9);
        x.strokes(0, 1, 40);
        Check.due("full gullets", x.chips(0) >= x.gullets(0), true);
        long before = x.checksum();
        int wear = x.wear(0, 0);
        Check.due("full", x.isSound(), true);
        Check.due("the stroke is on a copy", x.wear(0, 0), wear);
        Check.due("nothing changes", x.checksum(), before);
        x.set(0, 0);
        // As the words say it: more is in the gullets now than they hold and one more bite.
        Check.due("set taken back", x.isSound(), false);
        x.brush(0);
        Check.due("brushed", x.isSound(), true);
        Check.due("cracked", Shops.crackedTool('f').isSound(), true);
        Check.due("gone", sentOne().isSound(), true);
    }

    private static Teethrow sentOne() {
        Teethrow x = Shops.goodFile();
        x.send(0, 0);
        return x;
    }
}
