import com.sun.management.ThreadMXBean;
import java.lang.management.ManagementFactory;
import java.util.LinkedHashMap;
import java.util.Map;
import java.util.function.Consumer;

/** All calls of a run live in one room: only a new object, blanks, orders and exceptions make anything. */
public final class RoomTest {
    private static final int TIMES = 4000;
    private static final ThreadMXBean MEMORY = (ThreadMXBean) ManagementFactory.getThreadMXBean();

    private RoomTest() {
    }

    public static void main(String[] args) {
        for (Map.Entry<String, Consumer<Teethrow>> call : calls().entrySet()) {
            makesNothing(call.getKey(), call.getValue());
        }
        wholeObject();
        Check.end();
    }

    /** Calls that can be done again and again on a hard file, a soft saw and an order. */
    private static Map<String, Consumer<Teethrow>> calls() {
        Map<String, Consumer<Teethrow>> all = new LinkedHashMap<>();
        all.put("questions", x -> {
            x.teeth(0);
            x.place(0, 5);
            x.height(0, 5);
            x.wear(0, 5);
            x.sings(0);
            x.kerf(0);
            x.gullets(0);
            x.thickness(0);
            x.state(0);
            x.hardness(0);
            x.bend(0);
            x.chips(0);
            x.work(0);
            x.recuts(0);
            x.recutsLeft(0, 'm');
            x.sent(0);
        });
        all.put("isGood", x -> x.isGood(0, 0));
        all.put("wornShare", x -> x.wornShare());
        all.put("meanHardness", x -> x.meanHardness());
        all.put("checksum", x -> x.checksum());
        all.put("isSound", x -> x.isSound());
        all.put("seed", x -> x.seed(5));
        all.put("set", x -> x.set(1, 3));
        all.put("temper and straighten", x -> {
            x.temper(0, 100);
            x.straighten(0, 1);
        });
        all.put("strokes and brush", x -> {
            x.strokes(0, 1, 40);
            x.brush(0);
        });
        all.put("soften and harden", x -> {
            x.soften(0);
            x.harden(0, 850, 'o');
            x.temper(0, 400);
            x.straighten(0, 6);
        });
        return all;
    }

    private static Teethrow shop() {
        Teethrow x = Shops.longest('f');
        x.blank('s', 200, 90, 140);
        x.cut(1, 'm', 1);
        x.order('f', 'm', 8);
        return x;
    }

    /** Far fewer bytes than one object for each time; a little is left for what the machine itself makes. */
    private static void makesNothing(String what, Consumer<Teethrow> call) {
        Teethrow x = shop();
        long first = made(x, call, 1);
        long again = made(x, call, TIMES);
        Check.due(what + " makes nothing: " + first + ", " + again, again < 16L * TIMES / 4, true);
    }

    private static long made(Teethrow x, Consumer<Teethrow> call, int times) {
        long before = MEMORY.getCurrentThreadAllocatedBytes();
        for (int i = 0; i < times; i++) {
            call.accept(x);
        }
        return MEMORY.getCurrentThreadAllocatedBytes() - before;
    }

    /** 512 calls that fill an object, cut, grind and all, stay within a few rows of sixty for each tool. */
    private static void wholeObject() {
        run();
        long before = MEMORY.getCurrentThreadAllocatedBytes();
        run();
        Check.due("a run's bytes", MEMORY.getCurrentThreadAllocatedBytes() - before < 20000, true);
    }

    private static void run() {
        Teethrow x = new Teethrow();
        for (int i = 0; i < 8; i++) {
            x.blank('f', 200, 99, 140);
        }
        for (int i = 0; i < 6; i++) {
            x.order('f', 'm', 8);
        }
        for (int i = 0; i < 8; i++) {
            for (int recut = 0; recut < 10; recut++) {
                x.cut(i, 'm', 0);
                x.harden(i, 850, 'o');
                x.strokes(i, 20, 40);
                x.isSound();
                x.soften(i);
                x.grind(i);
            }
        }
    }
}
