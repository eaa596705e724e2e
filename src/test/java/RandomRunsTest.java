import java.util.List;
import java.util.Map;

/** Runs of up to 510 calls with fitting and unfitting arguments: only documented exceptions, and none changes anything. */
public final class RandomRunsTest {
    private static final Map<Integer, List<String>> ALLOWED = Map.of(
            0, List.of("IllegalArgumentException", "IllegalStateException"),
            1, List.of("IndexOutOfBoundsException", "IllegalArgumentException", "UnsupportedOperationException"),
            2, List.of("IndexOutOfBoundsException", "UnsupportedOperationException"),
            3, List.of("IndexOutOfBoundsException"),
            4, List.of("IndexOutOfBoundsException", "NoSuchElementException"),
            5, List.of("IndexOutOfBoundsException", "IllegalArgumentException"),
            6, List.of("IllegalArgumentException"),
            7, List.of("ArithmeticException"),
            8, List.of());
    private static final int[] ODD = {-1, Integer.MIN_VALUE, Integer.MAX_VALUE, 0, 8, 60, 100};
    private static final char[] SIGNS = {'f', 'h', 's', 'b', 'm', 'o', 'w', 'x'};

    private static long random = 12345;
    private static int kind;

    private RandomRunsTest() {
    }

    public static void main(String[] args) {
        for (int run = 0; run < 400; run++) {
            Teethrow x = new Teethrow();
            for (int call = 0; call < 170; call++) {
                oneCall(x, run);
            }
        }
        Check.end();
    }

    private static int below(int bound) {
        random = random * 6364136223846793005L + 1442695040888963407L;
        return (int) ((random >>> 33) % bound);
    }

    /** A number from least to most, at times one beside. */
    private static int number(int least, int most) {
        int sort = below(24);
        if (sort == 0) {
            return ODD[below(ODD.length)];
        }
        return sort == 1 ? least - 1 : sort == 2 ? most + 1 : least + below(most - least + 1);
    }

    private static char sign(String good) {
        return below(16) == 0 ? SIGNS[below(SIGNS.length)] : good.charAt(below(good.length()));
    }

    private static int tool() {
        return below(16) == 0 ? number(0, 7) : below(3);
    }

    private static void oneCall(Teethrow x, int run) {
        long before = x.checksum();
        int what = below(38);
        String answer = Check.outcome(() -> what < 20 ? change(x, what) : ask(x, what));
        if (answer.startsWith("throws ")) {
            String name = answer.substring(answer.lastIndexOf('.') + 1);
            Check.due("run " + run + ", call " + what + " may throw " + name, ALLOWED.get(kind).contains(name), true);
            Check.due("run " + run + ", call " + what + " changes nothing", x.checksum(), before);
        }
    }

    private static Object change(Teethrow x, int what) {
        switch (what) {
            case 0: case 1:
                kind = 0;
                return x.blank(sign("fhs"), number(50, 200), number(20, 99), number(40, 140));
            case 2: case 3:
                kind = 1;
                return x.cut(tool(), sign("bsm"), number(0, 3));
            case 4:
                kind = 2;
                return x.upcut(tool());
            case 5: case 6:
                kind = 1;
                return x.set(tool(), number(0, 9));
            case 7: case 8:
                kind = 1;
                return x.harden(tool(), number(600, 1200), sign("owb"));
            case 9:
                kind = 1;
                return x.temper(tool(), number(100, 400));
            case 10:
                kind = 1;
                return x.straighten(tool(), number(1, 6));
            case 11:
                kind = 6;
                return x.seed(number(1, 1000));
            case 12: case 13:
                kind = 1;
                return x.strokes(tool(), number(1, 70), number(1, 40));
            case 14:
                kind = 3;
                return x.brush(tool());
            case 15:
                kind = 2;
                return x.soften(tool());
            case 16:
                kind = 2;
                return x.grind(tool());
            case 17:
                kind = 0;
                return x.order(sign("fhs"), sign("bsm"), number(1, 8));
            default:
                kind = 2;
                return x.send(tool(), number(0, 5));
        }
    }

    private static Object ask(Teethrow x, int what) {
        kind = 3;
        switch (what) {
            case 20: return x.teeth(tool());
            case 21: kind = 4; return x.place(tool(), number(0, 59));
            case 22: kind = 4; return x.height(tool(), number(0, 59));
            case 23: kind = 4; return x.wear(tool(), number(0, 59));
            case 24: return x.sings(tool());
            case 25: return x.kerf(tool());
            case 26: return x.gullets(tool());
            case 27: return x.thickness(tool());
            case 28: return x.state(tool());
            case 29: return x.hardness(tool());
            case 30: return x.bend(tool());
            case 31: return x.chips(tool());
            case 32: return x.work(tool());
            case 33: return x.recuts(tool());
            case 34: kind = 5; return x.recutsLeft(tool(), sign("bsm"));
            case 35: return x.isGood(tool(), number(0, 5)) ? x.sent(number(0, 5)) : 0;
            case 36: kind = 7; return below(2) == 0 ? x.wornShare() : x.meanHardness();
            default: kind = 8; return x.isSound();
        }
    }
}
