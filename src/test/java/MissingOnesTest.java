import java.util.LinkedHashMap;
import java.util.Map;
import java.util.function.Supplier;

/** Each call that names a tool or an order: on none, beside the last one, on one that is gone, and wrong otherwise, too. */
public final class MissingOnesTest {
    private static final int[] BESIDE_ALL = {-1, 8, 9, 256, 65536, Integer.MIN_VALUE, Integer.MAX_VALUE};

    private MissingOnesTest() {
    }

    public static void main(String[] args) {
        for (Map.Entry<String, Check.NumberedCall> call : toolCalls().entrySet()) {
            missingTools(call.getKey(), call.getValue());
            presentTools(call.getKey(), call.getValue());
        }
        for (Map.Entry<String, Check.NumberedCall> call : wrongToolCalls().entrySet()) {
            missingTools(call.getKey(), call.getValue());
        }
        for (Map.Entry<String, Check.NumberedCall> call : orderCalls().entrySet()) {
            missingOrders(call.getKey(), call.getValue());
            presentOrders(call.getKey(), call.getValue());
        }
        toolAndOrder();
        Check.end();
    }

    private static Map<String, Check.NumberedCall> toolCalls() {
        Map<String, Check.NumberedCall> all = new LinkedHashMap<>();
        all.put("cut", (x, tool) -> x.cut(tool, 'b', 1));
        all.put("upcut", (x, tool) -> x.upcut(tool));
        all.put("teeth", (x, tool) -> x.teeth(tool));
        all.put("place", (x, tool) -> x.place(tool, 0));
        all.put("height", (x, tool) -> x.height(tool, 0));
        all.put("wear", (x, tool) -> x.wear(tool, 0));
        all.put("sings", (x, tool) -> x.sings(tool));
        all.put("set", (x, tool) -> x.set(tool, 3));
        all.put("kerf", (x, tool) -> x.kerf(tool));
        all.put("gullets", (x, tool) -> x.gullets(tool));
        all.put("thickness", (x, tool) -> x.thickness(tool));
        all.put("state", (x, tool) -> x.state(tool));
        all.put("harden", (x, tool) -> x.harden(tool, 850, 'w'));
        all.put("hardness", (x, tool) -> x.hardness(tool));
        all.put("bend", (x, tool) -> x.bend(tool));
        all.put("temper", (x, tool) -> x.temper(tool, 100));
        all.put("straighten", (x, tool) -> x.straighten(tool, 1));
        all.put("strokes", (x, tool) -> x.strokes(tool, 20, 1));
        all.put("chips", (x, tool) -> x.chips(tool));
        all.put("brush", (x, tool) -> x.brush(tool));
        all.put("work", (x, tool) -> x.work(tool));
        all.put("soften", (x, tool) -> x.soften(tool));
        all.put("grind", (x, tool) -> x.grind(tool));
        all.put("recuts", (x, tool) -> x.recuts(tool));
        all.put("recutsLeft", (x, tool) -> x.recutsLeft(tool, 'b'));
        all.put("isGood", (x, tool) -> x.isGood(tool, 0));
        all.put("send", (x, tool) -> x.send(tool, 0));
        return all;
    }

    /** No such tool is documented first, ahead of each other exception. */
    private static Map<String, Check.NumberedCall> wrongToolCalls() {
        Map<String, Check.NumberedCall> all = new LinkedHashMap<>();
        all.put("cut, no such cut", (x, tool) -> x.cut(tool, 'x', 1));
        all.put("cut, no such spread", (x, tool) -> x.cut(tool, 'b', 4));
        all.put("place, no such tooth", (x, tool) -> x.place(tool, -1));
        all.put("height, no such tooth", (x, tool) -> x.height(tool, 60));
        all.put("wear, no such tooth", (x, tool) -> x.wear(tool, 60));
        all.put("set, no such set", (x, tool) -> x.set(tool, 10));
        all.put("harden, no such bath", (x, tool) -> x.harden(tool, 850, 'x'));
        all.put("harden, no such heat", (x, tool) -> x.harden(tool, 599, 'w'));
        all.put("temper, no such heat", (x, tool) -> x.temper(tool, 99));
        all.put("straighten, out of range", (x, tool) -> x.straighten(tool, 0));
        all.put("strokes, no such metal", (x, tool) -> x.strokes(tool, 0, 1));
        all.put("strokes, not so many", (x, tool) -> x.strokes(tool, 20, 41));
        all.put("recutsLeft, no such cut", (x, tool) -> x.recutsLeft(tool, 'x'));
        return all;
    }

    private static void missingTools(String call, Check.NumberedCall bad) {
        for (int number : new int[] {0, 1, 7}) {
            missing(call + " without tools", Teethrow::new, number, bad);
            missing(call + " behind all that are gone", () -> sent(8, 0, 8), number, bad);
        }
        missing(call + " beside one", () -> sent(1, 0, 0), 1, bad);
        missing(call + " beside seven", () -> sent(7, 0, 0), 7, bad);
        for (int number : BESIDE_ALL) {
            missing(call + " beside eight", () -> sent(8, 0, 0), number, bad);
        }
        missing(call + " on the first, gone", () -> sent(8, 0, 1), 0, bad);
        missing(call + " on the fourth, gone", () -> sent(8, 3, 4), 3, bad);
        missing(call + " on the last, gone", () -> sent(8, 7, 8), 7, bad);
        missing(call + " on the only one, gone", () -> sent(1, 0, 1), 0, bad);
    }

    private static void missing(String call, Supplier<Teethrow> setup, int number, Check.NumberedCall bad) {
        Check.refused(call + ": " + number, IndexOutOfBoundsException.class, setup, x -> bad.on(x, number));
    }

    /** So many tools and an order for eight, to which some are sent. */
    private static Teethrow sent(int tools, int from, int behind) {
        Teethrow x = Shops.goodFiles(tools);
        x.order('f', 's', 8);
        for (int i = from; i < behind; i++) {
            x.send(i, 0);
        }
        return x;
    }

    /** The first and the last of eight are there, whether the call fits them or not; so are those beside one that is gone. */
    private static void presentTools(String call, Check.NumberedCall good) {
        for (int number : new int[] {0, 1, 6, 7}) {
            isThere(call + " of eight: " + number, sent(8, 0, 0), number, good);
        }
        isThere(call + " ahead of the one gone", sent(8, 3, 4), 2, good);
        isThere(call + " behind the one gone", sent(8, 3, 4), 4, good);
    }

    private static void isThere(String call, Teethrow x, int number, Check.NumberedCall good) {
        String told = Check.outcome(() -> {
            good.on(x, number);
            return "an answer";
        });
        Check.due(call, told.equals("throws java.lang.IndexOutOfBoundsException"), false);
    }

    private static Map<String, Check.NumberedCall> orderCalls() {
        Map<String, Check.NumberedCall> all = new LinkedHashMap<>();
        all.put("isGood", (x, order) -> x.isGood(0, order));
        all.put("isGood of a blank", (x, order) -> x.isGood(1, order));
        all.put("send", (x, order) -> x.send(0, order));
        all.put("send of a blank", (x, order) -> x.send(1, order));
        all.put("sent", (x, order) -> x.sent(order));
        return all;
    }

    private static Teethrow orders(int many) {
        Teethrow x = Shops.goodFiles(1);
        x.blank('f', 50, 90, 120);
        for (int i = 0; i < many; i++) {
            x.order('f', 's', 1);
        }
        return x;
    }

    private static void missingOrders(String call, Check.NumberedCall bad) {
        missing(call + " without orders", () -> orders(0), 0, bad);
        missing(call + " beside one order", () -> orders(1), 1, bad);
        missing(call + " beside five orders", () -> orders(5), 5, bad);
        for (int number : new int[] {-1, 6, 7, 8, 256, 65536, Integer.MIN_VALUE, Integer.MAX_VALUE}) {
            missing(call + " beside six orders", () -> orders(6), number, bad);
            missing(call + " beside one order", () -> orders(1), number, bad);
        }
    }

    private static void presentOrders(String call, Check.NumberedCall good) {
        for (int number = 0; number < 6; number++) {
            isThere(call + " for six orders: " + number, orders(6), number, good);
        }
    }

    private static void toolAndOrder() {
        missing("isGood, neither", () -> orders(1), 2, (x, number) -> x.isGood(number, number));
        missing("send, neither", () -> orders(1), 2, (x, number) -> x.send(number, number));
        missing("send, gone, for a full order", () -> {
            Teethrow x = orders(1);
            x.send(0, 0);
            return x;
        }, 0, (x, number) -> x.send(0, number));
        missing("isGood, gone, for no order", () -> sent(1, 0, 1), 5, (x, number) -> x.isGood(0, number));
    }
}
