import java.util.ArrayList;
import java.util.List;
import java.util.NoSuchElementException;

/**
 * The document once more, sentence by sentence and without a thought for space, so that random runs have answers to be
 * measured by. It holds what happened (a tooth's losses, a tool's straightenings) where the class works it out.
 */
final class Plain {
    private static final class Tooth {
        private int place;
        private int height;
        private int wear;
        private int lost;
    }

    private static final class Made {
        private char shape;
        private int length;
        private int thickness;
        private int carbon;
        private char state = 's';
        private List<Tooth> teeth = new ArrayList<>();
        private char name;
        private int spread;
        private boolean upcut;
        private int set;
        private int hardness;
        private int bend;
        private boolean warm;
        private int straightened;
        private int chips;
        private int greatestOfChips;
        private int work;
        private int recuts;
        private boolean gone;

        private int depth() {
            int depth = name == 'b' ? 9 : name == 's' ? 6 : 4;
            return shape == 'h' ? depth - 1 : depth;
        }

        private int gullets() {
            int hold = depth() * teeth.size();
            return shape == 's' ? hold + set * teeth.size() : hold;
        }

        /** The greatest bite of any tooth, on the softest metal that there is. */
        private int greatestBite() {
            int greatest = 0;
            for (Tooth tooth : teeth) {
                greatest = Math.max(greatest, state == 'h' ? bite(tooth, 1) : 0);
            }
            return greatest;
        }

        private int bite(Tooth tooth, int metal) {
            if (hardness <= metal) {
                return 0;
            }
            int bite = 1 + (hardness - metal) / 10;
            return bite > tooth.height ? tooth.height : bite;
        }
    }

    private static final class Wanted {
        private char shape;
        private char name;
        private int many;
        private int sent;
    }

    private final List<Made> tools = new ArrayList<>();
    private final List<Wanted> orders = new ArrayList<>();
    private int z = 1;

    private Made tool(int tool) {
        if (tool < 0 || tool >= tools.size() || tools.get(tool).gone) {
            throw new IndexOutOfBoundsException();
        }
        return tools.get(tool);
    }

    private Wanted wanted(int order) {
        if (order < 0 || order >= orders.size()) {
            throw new IndexOutOfBoundsException();
        }
        return orders.get(order);
    }

    private Tooth tooth(int tool, int tooth) {
        Made it = tool(tool);
        if (tooth < 0 || tooth >= it.teeth.size()) {
            throw new NoSuchElementException();
        }
        return it.teeth.get(tooth);
    }

    private static void argument(boolean fits) {
        if (!fits) {
            throw new IllegalArgumentException();
        }
    }

    private static void allowed(boolean can) {
        if (!can) {
            throw new UnsupportedOperationException();
        }
    }

    private static boolean in(int number, int least, int most) {
        return least <= number && number <= most;
    }

    private static boolean isOne(char sign, String of) {
        return of.indexOf(sign) >= 0;
    }

    int blank(char shape, int length, int thickness, int carbon) {
        argument(isOne(shape, "fhs") && in(length, 50, 200) && in(thickness, 20, 99) && in(carbon, 40, 140));
        if (tools.size() == 8) {
            throw new IllegalStateException();
        }
        Made it = new Made();
        it.shape = shape;
        it.length = length;
        it.thickness = thickness;
        it.carbon = carbon;
        tools.add(it);
        return tools.size() - 1;
    }

    int cut(int tool, char name, int spread) {
        Made it = tool(tool);
        argument(isOne(name, "bsm") && in(spread, 0, 3));
        allowed(it.state == 's' && it.teeth.isEmpty());
        char before = it.name;
        it.name = name;
        if (it.thickness < it.depth() + 10) {
            it.name = before;
            throw new UnsupportedOperationException();
        }
        it.spread = spread;
        int pitch = name == 'b' ? 6 : name == 's' ? 4 : 3;
        for (int place = 0; place < it.length && it.teeth.size() < 60;) {
            Tooth tooth = new Tooth();
            tooth.place = place;
            tooth.height = it.depth();
            place += pitch + spread * (it.teeth.size() % 3);
            it.teeth.add(tooth);
        }
        return it.teeth.size();
    }

    int upcut(int tool) {
        Made it = tool(tool);
        allowed(it.shape != 's' && it.state == 's' && !it.teeth.isEmpty() && !it.upcut);
        it.upcut = true;
        int highest = 0;
        for (Tooth tooth : it.teeth) {
            tooth.height = tooth.height == 0 ? 0 : tooth.height - 1;
            highest = tooth.height > highest ? tooth.height : highest;
        }
        return highest;
    }

    int teeth(int tool) {
        return tool(tool).teeth.size();
    }

    int place(int tool, int tooth) {
        return tooth(tool, tooth).place;
    }

    int height(int tool, int tooth) {
        return tooth(tool, tooth).height;
    }

    int wear(int tool, int tooth) {
        return tooth(tool, tooth).wear;
    }

    boolean sings(int tool) {
        Made it = tool(tool);
        // No blank is so short that it has less than three teeth, if it has any.
        return !it.teeth.isEmpty() && it.spread == 0;
    }

    int set(int tool, int by) {
        Made it = tool(tool);
        argument(in(by, 0, 9));
        allowed(it.shape == 's' && !it.teeth.isEmpty() && it.state != 'c');
        int before = it.set;
        it.set = by;
        it.warm = false;
        return before;
    }

    int kerf(int tool) {
        Made it = tool(tool);
        return it.shape == 's' ? it.thickness + it.set + it.set : it.thickness;
    }

    int gullets(int tool) {
        return tool(tool).gullets();
    }

    int thickness(int tool) {
        return tool(tool).thickness;
    }

    char state(int tool) {
        return tool(tool).state;
    }

    int harden(int tool, int degrees, char bath) {
        Made it = tool(tool);
        argument(isOne(bath, "owb") && in(degrees, 600, 1200));
        allowed(it.state == 's' && !it.teeth.isEmpty());
        if (degrees + it.carbon < 900) {
            return 0;
        }
        int force = bath == 'o' ? 4 : bath == 'w' ? 8 : 12;
        int hardness = it.carbon / 2 + force;
        for (int more = 920; more <= degrees; more += 20) {
            hardness--;
        }
        it.hardness = hardness > 66 ? 66 : hardness < 1 ? 1 : hardness;
        z = (int) ((long) z * 48271 % 2147483647);
        it.bend += force * it.length / (20 * it.thickness) + z % 5;
        it.state = it.bend > 30 ? 'c' : 'h';
        return it.hardness;
    }

    int hardness(int tool) {
        return tool(tool).hardness;
    }

    int bend(int tool) {
        return tool(tool).bend;
    }

    int temper(int tool, int degrees) {
        Made it = tool(tool);
        argument(in(degrees, 100, 400));
        allowed(it.state == 'h');
        for (int i = 25; i <= degrees && it.hardness > 1; i += 25) {
            it.hardness--;
        }
        it.warm = true;
        it.straightened = 0;
        return it.hardness;
    }

    int straighten(int tool, int by) {
        Made it = tool(tool);
        argument(in(by, 1, 6));
        allowed(it.warm && it.straightened < 2);
        it.straightened++;
        it.bend = it.bend < by ? 0 : it.bend - by;
        return it.bend;
    }

    int seed(int next) {
        argument(in(next, 1, 2147483646));
        int before = z;
        z = next;
        return before;
    }

    int strokes(int tool, int metal, int strokes) {
        Made it = tool(tool);
        argument(in(metal, 1, 70) && in(strokes, 1, 40));
        allowed(it.state == 'h');
        it.warm = false;
        int before = it.chips;
        for (int i = 0; i < strokes; i++) {
            for (Tooth tooth : it.teeth) {
                if (it.gullets() > it.chips && tooth.height > 0) {
                    stroke(it, tooth, metal);
                }
            }
        }
        it.work += it.chips - before;
        return it.chips - before;
    }

    private static void stroke(Made it, Tooth tooth, int metal) {
        int bite = it.bite(tooth, metal);
        if (bite > 0) {
            it.greatestOfChips = Math.max(it.chips == 0 ? 0 : it.greatestOfChips, it.greatestBite());
        }
        it.chips += bite;
        tooth.wear += metal;
        while (tooth.wear >= 100) {
            tooth.wear -= 100;
            tooth.height = tooth.height == 0 ? 0 : tooth.height - 1;
            tooth.lost++;
        }
    }

    int chips(int tool) {
        return tool(tool).chips;
    }

    int brush(int tool) {
        Made it = tool(tool);
        int before = it.chips;
        it.chips = 0;
        it.warm = false;
        return before;
    }

    int work(int tool) {
        return tool(tool).work;
    }

    int soften(int tool) {
        Made it = tool(tool);
        allowed(it.state == 'h');
        int before = it.hardness;
        it.state = 's';
        it.hardness = 0;
        it.warm = false;
        return before;
    }

    int grind(int tool) {
        Made it = tool(tool);
        allowed(it.state == 's' && !it.teeth.isEmpty() && it.thickness - it.depth() - 2 >= 20);
        it.thickness -= it.depth() + 2;
        it.teeth.clear();
        it.upcut = false;
        it.set = 0;
        it.chips = 0;
        it.recuts++;
        return it.thickness;
    }

    int recuts(int tool) {
        return tool(tool).recuts;
    }

    int recutsLeft(int tool, char name) {
        Made it = tool(tool);
        argument(isOne(name, "bsm"));
        Made copy = new Made();
        copy.shape = it.shape;
        copy.name = it.teeth.isEmpty() ? name : it.name;
        int left = 0;
        for (int thickness = it.thickness - copy.depth() - 2; thickness >= 20; thickness -= copy.depth() + 2) {
            left++;
            copy.name = name;
        }
        return left;
    }

    int order(char shape, char name, int many) {
        argument(isOne(shape, "fhs") && isOne(name, "bsm") && in(many, 1, 8));
        if (orders.size() == 6) {
            throw new IllegalStateException();
        }
        Wanted order = new Wanted();
        order.shape = shape;
        order.name = name;
        order.many = many;
        orders.add(order);
        return orders.size() - 1;
    }

    boolean isGood(int tool, int order) {
        Made it = tool(tool);
        Wanted to = wanted(order);
        for (Tooth tooth : it.teeth) {
            if (tooth.lost > 0 || tooth.wear > 0) {
                return false;
            }
        }
        return it.shape == to.shape && !it.teeth.isEmpty() && it.name == to.name && it.state == 'h'
                && it.hardness >= 50 && it.bend <= 3 && it.spread != 0;
    }

    int send(int tool, int order) {
        Made it = tool(tool);
        Wanted to = wanted(order);
        allowed(isGood(tool, order) && to.sent < to.many);
        it.gone = true;
        to.sent++;
        return to.sent;
    }

    int sent(int order) {
        return wanted(order).sent;
    }

    float wornShare() {
        int lost = 0;
        int all = 0;
        for (Made it : tools) {
            for (int i = 0; i < it.teeth.size() && !it.gone; i++) {
                lost += it.teeth.get(i).lost > 0 ? 1 : 0;
                all++;
            }
        }
        if (all == 0) {
            throw new ArithmeticException();
        }
        return (float) lost / (float) all;
    }

    double meanHardness() {
        int sum = 0;
        int many = 0;
        for (Made it : tools) {
            if (!it.gone && it.state == 'h') {
                sum += it.hardness;
                many++;
            }
        }
        if (many == 0) {
            throw new ArithmeticException();
        }
        return (double) sum / (double) many;
    }

    long checksum() {
        long sum = 7;
        for (Made it : tools) {
            if (!it.gone) {
                sum = ((sum * 31 + it.thickness) * 31 + it.hardness) * 31 + it.bend;
                for (Tooth tooth : it.teeth) {
                    sum = sum * 31 + tooth.height;
                }
            }
        }
        return sum * 31 + z;
    }

    /**
     * Only what is in the gullets can ever be too much, by a set that is taken back: by more than the greatest bite
     * that the tool has now, and had at any bite that is in its gullets.
     */
    boolean isSound() {
        for (Made it : tools) {
            int bite = Math.max(it.greatestOfChips, it.greatestBite());
            if (!it.gone && it.chips > 0 && it.chips > it.gullets() + bite) {
                return false;
            }
        }
        return true;
    }

    /** How much more is in the gullets than they hold. */
    int beyond(int tool) {
        return tool(tool).chips - tool(tool).gullets();
    }
}
