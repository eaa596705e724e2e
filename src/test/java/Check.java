import java.util.NoSuchElementException;
import java.util.function.Consumer;
import java.util.function.Supplier;

/** What the tests have in common: answers that are due, exceptions that are due, and a view of all that an object tells. */
final class Check {
    private static int wrong = 0;
    private static int asked = 0;

    private Check() {
    }

    static void due(String call, long got, long want) {
        told(call, got == want, got, want);
    }

    static void due(String call, boolean got, boolean want) {
        told(call, got == want, got, want);
    }

    static void due(String call, double got, double want) {
        told(call, got == want, got, want);
    }

    static void due(String call, String got, String want) {
        told(call, got.equals(want), got, want);
    }

    private static void told(String call, boolean right, Object got, Object want) {
        asked++;
        if (!right) {
            wrong++;
            System.out.println(call + " answered " + got + ", due is " + want);
        }
    }

    /** The call throws exactly this on what setup makes, and the object tells the same as one that was not asked. */
    static void refused(String call, Class<?> exception, Supplier<Teethrow> setup, Consumer<Teethrow> bad) {
        Teethrow asked = setup.get();
        due(call, outcome(() -> {
            bad.accept(asked);
            return "nothing";
        }), "throws " + exception.getName());
        due("all behind " + call, view(asked), view(setup.get()));
    }

    /** Like refused, for calls on the tool numbers that a shop with one tool does not have. */
    static void refusedNumbers(String call, Supplier<Teethrow> setup, NumberedCall bad) {
        for (int number : new int[] {-1, 1, 7, 8, 9, Integer.MIN_VALUE, Integer.MAX_VALUE}) {
            refused(call + " on " + number, IndexOutOfBoundsException.class, setup, x -> bad.on(x, number));
        }
    }

    interface NumberedCall {
        void on(Teethrow x, int number);
    }

    static String outcome(Supplier<Object> call) {
        try {
            return String.valueOf(call.get());
        } catch (RuntimeException e) {
            return "throws " + e.getClass().getName();
        }
    }

    /** All that can be told of an object; it is asked once, for the last questions change it. */
    static String view(Teethrow x) {
        StringBuilder text = new StringBuilder();
        text.append(x.checksum()).append(' ').append(x.isSound());
        text.append(' ').append(outcome(x::wornShare)).append(' ').append(outcome(x::meanHardness));
        for (int i = 0; i < 6; i++) {
            viewOrder(x, i, text);
        }
        for (int i = 0; i < 8; i++) {
            viewTool(x, i, text);
        }
        for (int i = 0; i < 6; i++) {
            int order = i;
            text.append("\nsend 0 for ").append(i).append(": ").append(outcome(() -> x.send(0, order)));
        }
        text.append("\nnext ").append(outcome(() -> x.order('f', 'b', 1)));
        text.append(' ').append(outcome(() -> x.blank('f', 50, 50, 50)));
        return text.append(" z ").append(x.seed(1)).toString();
    }

    private static void viewOrder(Teethrow x, int order, StringBuilder text) {
        text.append("\norder ").append(order).append(": ").append(outcome(() -> x.sent(order)));
        for (int i = 0; i < 8; i++) {
            int tool = i;
            text.append(' ').append(outcome(() -> x.isGood(tool, order)));
        }
    }

    private static void viewTool(Teethrow x, int tool, StringBuilder text) {
        text.append("\ntool ").append(tool).append(": ");
        int teeth;
        try {
            teeth = x.teeth(tool);
        } catch (IndexOutOfBoundsException e) {
            text.append("none");
            return;
        }
        text.append(teeth).append(' ').append(x.state(tool)).append(' ').append(x.thickness(tool));
        text.append(' ').append(x.kerf(tool)).append(' ').append(x.gullets(tool)).append(' ').append(x.chips(tool));
        text.append(' ').append(x.hardness(tool)).append(' ').append(x.bend(tool)).append(' ').append(x.work(tool));
        text.append(' ').append(x.recuts(tool)).append(' ').append(x.sings(tool));
        for (int i = 0; i < teeth; i++) {
            text.append(' ').append(x.place(tool, i)).append('/').append(x.height(tool, i));
            text.append('/').append(x.wear(tool, i));
        }
        text.append(" left ").append(x.recutsLeft(tool, 'b')).append(' ').append(x.recutsLeft(tool, 'm'));
        for (int i = 0; i < 3; i++) {
            text.append(' ').append(outcome(() -> x.straighten(tool, 1)));
        }
        text.append(' ').append(outcome(() -> x.upcut(tool)));
    }

    static void missing(String call, Supplier<Teethrow> setup, Consumer<Teethrow> bad) {
        refused(call, NoSuchElementException.class, setup, bad);
    }

    /** To be called last in a test. */
    static void end() {
        System.out.println(wrong == 0 ? asked + " answers are as due" : wrong + " answers are not as due");
        if (wrong != 0) {
            System.exit(1);
        }
    }
}
