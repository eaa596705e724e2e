import java.math.BigInteger;
import java.util.function.Supplier;

/** The empty and the full rows: tools, orders, teeth and gullets; sums that go round; the last of 512 calls. */
public final class FullRowsTest {
    private FullRowsTest() {
    }

    public static void main(String[] args) {
        noTools();
        eightTools();
        eightGone();
        sixOrders();
        fullOrders();
        longestRow();
        upcutLongestRow();
        longestRowOfASaw();
        shorterRowBehindALonger();
        noTeeth();
        emptyGullets();
        gulletsThatJustHold();
        gulletsThatHoldOneMore();
        gulletsWithTooMuch();
        gulletsKeptAndEmptied();
        lastHeight();
        crackedStaysSo();
        checksumGoesRound();
        lastOf512Calls();
        Check.end();
    }

    private static void noTools() {
        Teethrow x = new Teethrow();
        Check.due("checksum", x.checksum(), 31 * 7 + 1);
        Check.due("isSound", x.isSound(), true);
        Check.refused("wornShare", ArithmeticException.class, Teethrow::new, y -> y.wornShare());
        Check.refused("meanHardness", ArithmeticException.class, Teethrow::new, y -> y.meanHardness());
        for (int i = 0; i < 8; i++) {
            x.blank('f', 50, 20 + i, 40);
        }
        Check.due("isSound, blanks alone", x.isSound(), true);
        Supplier<Teethrow> blanks = Shops::file;
        Check.refused("wornShare of blanks", ArithmeticException.class, blanks, y -> y.wornShare());
        Check.refused("meanHardness of blanks", ArithmeticException.class, blanks, y -> y.meanHardness());
    }

    private static void eightTools() {
        Teethrow x = new Teethrow();
        for (int i = 0; i < 8; i++) {
            Check.due("its number", x.blank('f', 50 + i, 20 + i, 40 + i), i);
        }
        for (int i = 0; i < 8; i++) {
            Check.due("its thickness", x.thickness(i), 20 + i);
            Check.due("its length", x.cut(i, 'm', 0), (50 + i + 2) / 3);
            Check.due("its carbon", x.harden(i, 900, 'o'), 24 + i / 2);
        }
        Supplier<Teethrow> eight = () -> Shops.goodFiles(8);
        Check.refused("a ninth", IllegalStateException.class, eight, y -> y.blank('f', 50, 20, 40));
        Check.refused("a ninth behind a refused one", IllegalStateException.class, () -> {
            Teethrow y = eight.get();
            Check.outcome(() -> y.blank('f', 49, 20, 40));
            return y;
        }, y -> y.blank('f', 200, 99, 140));
        Teethrow y = Shops.goodFiles(7);
        Check.outcome(() -> y.blank('x', 50, 20, 40));
        Check.outcome(() -> y.blank('f', 50, 20, 39));
        Check.due("the eighth behind two refused ones", y.blank('f', 50, 20, 40), 7);
    }

    private static Teethrow allSent() {
        Teethrow x = Shops.goodFiles(8);
        x.order('f', 's', 8);
        for (int i = 7; i >= 0; i--) {
            Check.due("send " + i, x.send(i, 0), 8 - i);
        }
        return x;
    }

    private static void eightGone() {
        Teethrow x = allSent();
        Check.due("sent", x.sent(0), 8);
        Check.due("checksum", x.checksum(), 31 * 7 + 48271);
        Check.due("isSound", x.isSound(), true);
        Supplier<Teethrow> gone = FullRowsTest::allSent;
        Check.refused("numbers are not given again", IllegalStateException.class, gone, y -> y.blank('f', 50, 20, 40));
        Check.refused("no such blank", IllegalArgumentException.class, gone, y -> y.blank('f', 50, 19, 40));
        Check.refused("wornShare", ArithmeticException.class, gone, y -> y.wornShare());
        Check.refused("meanHardness", ArithmeticException.class, gone, y -> y.meanHardness());
        Check.due("an order all the same", x.order('f', 's', 1), 1);
    }

    private static Teethrow withOrders(int tools, int orders) {
        Teethrow x = Shops.goodFiles(tools);
        for (int i = 0; i < orders; i++) {
            Check.due("its number", x.order('f', 's', 1), i);
        }
        return x;
    }

    private static void sixOrders() {
        Teethrow x = withOrders(8, 6);
        for (int i = 0; i < 6; i++) {
            Check.due("none sent", x.sent(i), 0);
            Check.due("isGood", x.isGood(7 - i, i), true);
            Check.due("the first sent", x.send(7 - i, i), 1);
            Check.due("one sent", x.sent(i), 1);
        }
        Check.refused("a seventh", IllegalStateException.class, () -> withOrders(1, 6), y -> y.order('s', 'b', 8));
        Check.refused("a seventh, all full", IllegalStateException.class, () -> {
            Teethrow y = withOrders(8, 6);
            for (int i = 0; i < 6; i++) {
                y.send(i, i);
            }
            return y;
        }, y -> y.order('s', 'b', 8));
        Teethrow y = withOrders(1, 5);
        Check.outcome(() -> y.order('x', 'b', 1));
        Check.outcome(() -> y.order('f', 'b', 0));
        Check.due("the sixth behind two refused ones", y.order('f', 'b', 1), 5);
    }

    private static Teethrow filled(int many) {
        Teethrow x = Shops.goodFiles(8);
        x.order('f', 's', many);
        for (int i = 0; i < many; i++) {
            Check.due("send", x.send(i, 0), i + 1);
        }
        return x;
    }

    private static void fullOrders() {
        for (int many = 1; many <= 7; many++) {
            int full = many;
            Check.refused("one more than " + many, UnsupportedOperationException.class, () -> filled(full),
                    x -> x.send(7, 0));
            Teethrow x = filled(full);
            Check.due("good, full aside", x.isGood(7, 0), true);
            Check.due("sent", x.sent(0), many);
            x.order('f', 's', 1);
            Check.due("for the next order", x.send(7, 1), 1);
            Check.due("sent for the first as before", x.sent(0), many);
        }
        Check.due("eight", filled(8).sent(0), 8);
        Check.refused("neither good nor room", UnsupportedOperationException.class, () -> {
            Teethrow x = filled(1);
            x.soften(1);
            return x;
        }, x -> x.send(1, 0));
    }

    private static void longestRow() {
        for (char shape : new char[] {'f', 'h', 's'}) {
            int depth = shape == 'h' ? 3 : 4;
            Teethrow x = Shops.longest(shape);
            Check.due("teeth", x.teeth(0), 60);
            Check.due("gullets", x.gullets(0), 60 * depth);
            Check.due("sings", x.sings(0), true);
            for (int i = 0; i < 60; i++) {
                Check.due("place", x.place(0, i), 3 * i);
                Check.due("height", x.height(0, i), depth);
                Check.due("wear", x.wear(0, i), 0);
            }
            Check.missing("place 60", () -> Shops.longest(shape), y -> y.place(0, 60));
            Check.missing("height 60", () -> Shops.longest(shape), y -> y.height(0, 60));
            Check.missing("wear 60", () -> Shops.longest(shape), y -> y.wear(0, 60));
            Check.due("isSound", x.isSound(), true);
            Check.due("strokes", x.strokes(0, 57, 1), 60);
            Check.due("the last tooth", x.wear(0, 59), 57);
            Check.due("isSound, tried", x.isSound(), true);
            Check.due("strokes to the end", x.strokes(0, 57, 40), 60 * (depth - 1));
            Check.due("isSound, full", x.isSound(), true);
            Check.due("all are worn", x.wornShare(), 1.0f);
            x.soften(0);
            Check.due("grind", x.grind(0), 40 - 2 - depth);
            Check.due("teeth ground", x.teeth(0), 0);
            Check.due("the same again", x.cut(0, 'm', 0), 60);
            Check.due("the last height anew", x.height(0, 59), depth);
            Check.due("the last wear anew", x.wear(0, 59), 0);
        }
    }

    private static void upcutLongestRow() {
        for (char shape : new char[] {'f', 'h'}) {
            int depth = shape == 'h' ? 3 : 4;
            Teethrow x = Shops.longest(shape);
            x.soften(0);
            Check.due("upcut", x.upcut(0), depth - 1);
            for (int i = 0; i < 60; i++) {
                Check.due("height upcut", x.height(0, i), depth - 1);
            }
            Check.due("none is worn", x.wornShare(), 0.0f);
            Check.due("isSound, upcut", x.isSound(), true);
        }
    }

    private static void longestRowOfASaw() {
        Teethrow x = Shops.longest('s');
        Check.due("set", x.set(0, 9), 0);
        Check.due("gullets", x.gullets(0), 60 * 13);
        Check.due("kerf", x.kerf(0), 58);
        // Three strokes bite 240 each; the 60 that are left of 780 are 15 teeth of the fourth.
        Check.due("strokes", x.strokes(0, 1, 40), 780);
        Check.due("strokes of the last tooth", x.wear(0, 59), 3);
        Check.due("strokes of the tooth 14", x.wear(0, 14), 4);
        Check.due("strokes of the tooth 15", x.wear(0, 15), 3);
        Check.due("isSound", x.isSound(), true);
    }

    /** What a longer row of old leaves behind the last tooth is no tooth. */
    private static void shorterRowBehindALonger() {
        Supplier<Teethrow> setup = () -> {
            Teethrow x = Shops.longest('f');
            x.soften(0);
            x.grind(0);
            Check.due("the shortest", x.cut(0, 'b', 3), 23);
            return x;
        };
        for (int tooth : new int[] {23, 24, 59, 60}) {
            Check.missing("place " + tooth, setup, x -> x.place(0, tooth));
            Check.missing("height " + tooth, setup, x -> x.height(0, tooth));
            Check.missing("wear " + tooth, setup, x -> x.wear(0, tooth));
        }
        Teethrow x = setup.get();
        Check.due("the last place", x.place(0, 22), 7 * 27 + 6);
        Check.due("sings", x.sings(0), false);
        Check.due("gullets", x.gullets(0), 23 * 9);
        Check.due("isSound", x.isSound(), true);
        Check.due("upcut", x.upcut(0), 8);
        x.harden(0, 850, 'w');
        Check.due("isSound, hard", x.isSound(), true);
        Check.due("strokes", x.strokes(0, 50, 1), 23);
        Check.due("wornShare", x.wornShare(), 0.0f);
        x.strokes(0, 50, 1);
        Check.due("wornShare behind 100", x.wornShare(), 1.0f);
    }

    private static Teethrow ground() {
        Teethrow x = Shops.hardFile();
        x.strokes(0, 60, 3);
        x.soften(0);
        x.upcut(0);
        x.grind(0);
        return x;
    }

    private static void noTeeth() {
        noTeethOf("a blank", Shops::file);
        noTeethOf("a ground one", FullRowsTest::ground);
        Teethrow x = ground();
        x.cut(0, 'b', 1);
        Check.due("upcut once more, cut anew", x.upcut(0), 8);
    }

    private static void noTeethOf(String what, Supplier<Teethrow> setup) {
        Teethrow x = setup.get();
        Check.due("teeth of " + what, x.teeth(0), 0);
        Check.due("sings " + what, x.sings(0), false);
        Check.due("gullets of " + what, x.gullets(0), 0);
        Check.due("chips of " + what, x.chips(0), 0);
        Check.due("kerf of " + what, x.kerf(0), x.thickness(0));
        Check.due("brush of " + what, x.brush(0), 0);
        Check.due("state of " + what, x.state(0), 's');
        Check.due("isSound of " + what, x.isSound(), true);
        Check.missing("place of " + what, setup, y -> y.place(0, 0));
        Check.missing("height of " + what, setup, y -> y.height(0, 0));
        Check.missing("wear of " + what, setup, y -> y.wear(0, 0));
        Class<?> unfit = UnsupportedOperationException.class;
        Check.refused("upcut of " + what, unfit, setup, y -> y.upcut(0));
        Check.refused("harden of " + what, unfit, setup, y -> y.harden(0, 850, 'w'));
        Check.refused("harden too cold of " + what, unfit, setup, y -> y.harden(0, 600, 'w'));
        Check.refused("grind of " + what, unfit, setup, y -> y.grind(0));
        Check.refused("wornShare of " + what, ArithmeticException.class, setup, y -> y.wornShare());
    }

    private static void emptyGullets() {
        Teethrow x = Shops.hardFile();
        Check.due("chips at first", x.chips(0), 0);
        Check.due("brush of empty ones", x.brush(0), 0);
        x.strokes(0, 58, 1);
        Check.due("chips by no bite", x.chips(0), 0);
        Check.due("work by no bite", x.work(0), 0);
        Check.due("wear by no bite", x.wear(0, 8), 58);
    }

    /** Nine teeth of the hardness 50: three strokes on a metal of 30 are 81, just what the gullets hold. */
    private static Teethrow justFull() {
        Teethrow x = Shops.blank('s', 60, 40, 84);
        x.cut(0, 'b', 1);
        x.harden(0, 850, 'w');
        Check.due("bites of 3", x.strokes(0, 30, 3), 81);
        Check.due("just full", x.gullets(0) - x.chips(0), 0);
        return x;
    }

    private static void gulletsThatJustHold() {
        Teethrow x = justFull();
        Check.due("each tooth thrice", x.wear(0, 0) + x.wear(0, 8), 180);
        Check.due("full", x.strokes(0, 1, 1), 0);
        Check.due("full, 40 strokes", x.strokes(0, 30, 40), 0);
        Check.due("full, a harder metal", x.strokes(0, 70, 40), 0);
        Check.due("the first tooth does nothing", x.wear(0, 0), 90);
        Check.due("chips stay", x.chips(0), 81);
        Check.due("work stays", x.work(0), 81);
        Check.due("isSound, full", x.isSound(), true);
        Check.due("set wider", x.set(0, 1), 0);
        Check.due("it bites again", x.strokes(0, 30, 40), 9);
        Check.due("the third tooth did", x.height(0, 2), 8);
        Check.due("the fourth did not", x.height(0, 3), 9);
        Check.due("just full again", x.chips(0), x.gullets(0));
    }

    /** Bites of 4: 81 hold more than the 80 of twenty bites, and the next falls in whatever they hold then. */
    private static void gulletsThatHoldOneMore() {
        Teethrow x = Shops.hardFile();
        Check.due("18 bites", x.strokes(0, 20, 2), 72);
        Check.due("three more", x.strokes(0, 20, 1), 12);
        Check.due("more than they hold", x.chips(0), 84);
        Check.due("the third tooth", x.wear(0, 2), 60);
        Check.due("the fourth tooth", x.wear(0, 3), 40);
        Check.due("isSound", x.isSound(), true);
        Check.due("no more", x.strokes(0, 20, 40), 0);
        // In the same call, just the same.
        Teethrow y = Shops.hardFile();
        Check.due("all in one", y.strokes(0, 20, 40), 84);
        Check.due("the same", y.checksum(), x.checksum());
        // The most that one bite goes beyond: 14 bites of 7 are 98, and 11 teeth hold 99.
        Teethrow z = Shops.blank('f', 70, 40, 140);
        Check.due("teeth", z.cut(0, 'b', 1), 11);
        z.harden(0, 850, 'b');
        Check.due("bites of 7", z.strokes(0, 1, 40), 105);
        Check.due("6 beyond", z.chips(0) - z.gullets(0), 6);
        Check.due("isSound behind the greatest bite", z.isSound(), true);
    }

    private static Teethrow setBack() {
        Teethrow x = justFull();
        x.set(0, 9);
        x.strokes(0, 30, 2);
        x.set(0, 0);
        Check.due("chips stay", x.chips(0), 135);
        Check.due("gullets", x.gullets(0), 81);
        return x;
    }

    private static void gulletsWithTooMuch() {
        Teethrow x = setBack();
        int wear = x.wear(0, 0);
        Check.due("nothing is done", x.strokes(0, 30, 40), 0);
        Check.due("no wear", x.wear(0, 0), wear);
        Check.due("chips stay", x.chips(0), 135);
        x.set(0, 6);
        Check.due("just full", x.strokes(0, 30, 1), 0);
        x.set(0, 7);
        Check.due("room again", x.strokes(0, 30, 1), 9);
        Check.due("brushed", setBack().brush(0), 135);
    }

    private static void gulletsKeptAndEmptied() {
        Teethrow x = justFull();
        x.temper(0, 100);
        x.soften(0);
        Check.due("softened", x.chips(0), 81);
        x.harden(0, 850, 'w');
        Check.due("hardened", x.chips(0), 81);
        Check.due("full still", x.strokes(0, 1, 1), 0);
        Check.due("brushed", x.brush(0), 81);
        Check.due("empty", x.chips(0), 0);
        Check.due("brushed again", x.brush(0), 0);
        Check.due("work stays", x.work(0), 81);
        x.strokes(0, 30, 1);
        x.soften(0);
        x.grind(0);
        x.cut(0, 'm', 1);
        Check.due("ground and cut", x.chips(0), 0);
    }

    /** Teeth of the heights 1 and 0: 12 strokes on a metal of 70 are a wear of 840. */
    private static void lastHeight() {
        Teethrow x = Shops.hardFile();
        x.strokes(0, 70, 12);
        Check.due("height 1", x.height(0, 8), 1);
        Check.due("a bite up to it", x.strokes(0, 1, 1), 9);
        x.brush(0);
        x.soften(0);
        Check.due("upcut to 0", x.upcut(0), 0);
        Check.due("height 0", x.height(0, 8), 0);
        int wear = x.wear(0, 8);
        x.harden(0, 850, 'w');
        Check.due("a tooth of 0 bites nothing", x.strokes(0, 1, 40), 0);
        Check.due("a tooth of 0 wears not", x.strokes(0, 70, 40) + x.wear(0, 8), wear);
        Check.due("gullets by the depth still", x.gullets(0), 81);
        Check.due("isSound", x.isSound(), true);
        Check.due("lost", x.wornShare(), 1.0f);
    }

    private static void crackedStaysSo() {
        for (char shape : new char[] {'f', 'h', 's'}) {
            Supplier<Teethrow> cracked = () -> Shops.crackedTool(shape);
            Class<?> unfit = UnsupportedOperationException.class;
            Check.refused("cut", unfit, cracked, x -> x.cut(0, 'm', 1));
            Check.refused("upcut", unfit, cracked, x -> x.upcut(0));
            Check.refused("set", unfit, cracked, x -> x.set(0, 0));
            Check.refused("harden", unfit, cracked, x -> x.harden(0, 850, 'b'));
            Check.refused("harden too cold", unfit, cracked, x -> x.harden(0, 600, 'b'));
            Check.refused("temper", unfit, cracked, x -> x.temper(0, 100));
            Check.refused("straighten", unfit, cracked, x -> x.straighten(0, 6));
            Check.refused("strokes", unfit, cracked, x -> x.strokes(0, 1, 1));
            Check.refused("soften", unfit, cracked, x -> x.soften(0));
            Check.refused("grind", unfit, cracked, x -> x.grind(0));
            Check.refused("meanHardness", ArithmeticException.class, cracked, x -> x.meanHardness());
            Teethrow x = cracked.get();
            x.brush(0);
            Check.due("brushed", x.state(0), 'c');
            Check.due("its hardness", x.hardness(0), 66);
            Check.due("its teeth count", x.wornShare(), 0.0f);
            Check.due("isSound", x.isSound(), true);
            Check.due("good", x.isGood(0, x.order(shape, 'm', 1)), false);
        }
    }

    /** Eight tools of 60 teeth: far more than a long holds, so that the sum goes round as long arithmetic does. */
    private static void checksumGoesRound() {
        Teethrow x = new Teethrow();
        BigInteger due = BigInteger.valueOf(7);
        for (int i = 0; i < 8; i++) {
            x.blank('h', 200, 99 - i, 100 + i);
            Check.due("teeth", x.cut(i, 'm', 0), 60);
            x.harden(i, 850, 'b');
            x.strokes(i, 60, i + 1);
            due = plus(plus(plus(due, x.thickness(i)), x.hardness(i)), x.bend(i));
            for (int tooth = 0; tooth < 60; tooth++) {
                due = plus(due, x.height(i, tooth));
            }
        }
        int z = x.seed(2147483646);
        x.seed(z);
        Check.due("goes round", x.checksum(), plus(due, z).longValue());
        x.seed(2147483646);
        Check.due("the greatest z", x.checksum(), plus(due, 2147483646).longValue());
    }

    private static BigInteger plus(BigInteger sum, int number) {
        return sum.multiply(BigInteger.valueOf(31)).add(BigInteger.valueOf(number));
    }

    private static void lastOf512Calls() {
        Teethrow x = Shops.hardFile();
        for (int call = 4; call <= 511; call++) {
            x.strokes(0, 1, 40);
        }
        Check.due("the last call", x.work(0), 84);
        Teethrow y = new Teethrow();
        for (int call = 1; call <= 511; call++) {
            Check.due("seed", y.seed(call + 1), call);
        }
        Check.due("the last sum", y.checksum(), 31 * 7 + 512);
    }
}
