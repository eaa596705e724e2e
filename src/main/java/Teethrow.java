import java.util.NoSuchElementException;

/** A shop of files and saws that are cut by hand; ../shared/DOC.md numbers what it promises. */
public final class Teethrow {
    private static final int MAX_TOOLS = 8;
    private static final int MAX_ORDERS = 6;
    private static final int MAX_TEETH = 60;

    private static final int LEAST_LENGTH = 50;
    private static final int MOST_LENGTH = 200;
    private static final int LEAST_THICKNESS = 20;
    private static final int MOST_THICKNESS = 99;
    private static final int LEAST_CARBON = 40;
    private static final int MOST_CARBON = 140;
    private static final int MOST_SPREAD = 3;
    private static final int MOST_SET = 9;
    private static final int UNDER_TEETH = 10;
    private static final int GROUND_BESIDE_DEPTH = 2;

    private static final int LEAST_HEAT = 600;
    private static final int MOST_HEAT = 1200;
    private static final int HOT = 900;
    private static final int MOST_HARDNESS = 66;
    private static final int CRACKING_BEND = 30;
    private static final int LEAST_TEMPERING = 100;
    private static final int MOST_TEMPERING = 400;
    private static final int STRAIGHTENINGS = 2;
    private static final int MOST_STRAIGHTENING = 6;
    private static final long Z_FACTOR = 48271L;
    private static final long Z_MODULUS = 2147483647L;

    private static final int SOFTEST_METAL = 1;
    private static final int MOST_METAL = 70;
    private static final int MOST_STROKES = 40;
    private static final int WEAR_OF_ONE_HEIGHT = 100;

    private static final int MOST_ORDERED = 8;
    private static final int GOOD_HARDNESS = 50;
    private static final int GOOD_BEND = 3;

    /** The tools by number; one that was sent leaves null behind, so that its number is not given again. */
    private final Tool[] tools;
    private int toolCount;
    private final Order[] orders;
    private int orderCount;
    private long random;
    /** The teeth on which isSound tries a stroke, made once so that the call makes nothing. */
    private final Row copy;

    public Teethrow() {
        tools = new Tool[MAX_TOOLS];
        orders = new Order[MAX_ORDERS];
        random = 1;
        copy = new Row();
    }

    // ---- tools and teeth

    public int blank(char shape, int length, int thickness, int carbon)
            throws IllegalArgumentException, IllegalStateException {
        needShape(shape);
        needWithin(length, LEAST_LENGTH, MOST_LENGTH);
        needWithin(thickness, LEAST_THICKNESS, MOST_THICKNESS);
        needWithin(carbon, LEAST_CARBON, MOST_CARBON);
        if (toolCount >= MAX_TOOLS) {
            throw new IllegalStateException("there were 8 tools");
        }
        tools[toolCount] = new Tool(shape, length, thickness, carbon);
        toolCount++;
        return toolCount - 1;
    }

    public int cut(int tool, char name, int spread)
            throws IndexOutOfBoundsException, IllegalArgumentException, UnsupportedOperationException {
        Tool it = needTool(tool);
        needCut(name);
        needWithin(spread, 0, MOST_SPREAD);
        int depth = depthOf(name, it.shape);
        if (it.state != 's' || it.row.count > 0 || it.thickness < depth + UNDER_TEETH) {
            throw new UnsupportedOperationException("not soft, toothed or too thin");
        }
        it.row.fill(name, depth, spread, it.length);
        return it.row.count;
    }

    public int upcut(int tool) throws IndexOutOfBoundsException, UnsupportedOperationException {
        Tool it = needTool(tool);
        if (it.shape == 's' || it.state != 's' || it.row.count == 0 || it.row.isUpcut) {
            throw new UnsupportedOperationException("a saw, not soft, without teeth or upcut");
        }
        it.row.lowerAll();
        return it.row.highest();
    }

    public int teeth(int tool) throws IndexOutOfBoundsException {
        return needTool(tool).row.count;
    }

    public int place(int tool, int tooth) throws IndexOutOfBoundsException, NoSuchElementException {
        Row row = needTool(tool).row;
        needTooth(row, tooth);
        return row.places[tooth];
    }

    public int height(int tool, int tooth) throws IndexOutOfBoundsException, NoSuchElementException {
        Row row = needTool(tool).row;
        needTooth(row, tooth);
        return row.heights[tooth];
    }

    public int wear(int tool, int tooth) throws IndexOutOfBoundsException, NoSuchElementException {
        Row row = needTool(tool).row;
        needTooth(row, tooth);
        return row.wears[tooth];
    }

    public boolean sings(int tool) throws IndexOutOfBoundsException {
        return needTool(tool).row.isEven();
    }

    public int set(int tool, int by)
            throws IndexOutOfBoundsException, IllegalArgumentException, UnsupportedOperationException {
        Tool it = needTool(tool);
        needWithin(by, 0, MOST_SET);
        if (it.shape != 's' || it.row.count == 0 || it.state == 'c') {
            throw new UnsupportedOperationException("no saw, without teeth or cracked");
        }
        int before = it.sawSet;
        it.sawSet = by;
        it.cool();
        return before;
    }

    public int kerf(int tool) throws IndexOutOfBoundsException {
        Tool it = needTool(tool);
        return it.thickness + 2 * it.sawSet;
    }

    public int gullets(int tool) throws IndexOutOfBoundsException {
        return needTool(tool).holds();
    }

    public int thickness(int tool) throws IndexOutOfBoundsException {
        return needTool(tool).thickness;
    }

    public char state(int tool) throws IndexOutOfBoundsException {
        return needTool(tool).state;
    }

    // ---- hardening

    public int harden(int tool, int degrees, char bath)
            throws IndexOutOfBoundsException, IllegalArgumentException, UnsupportedOperationException {
        Tool it = needTool(tool);
        needBath(bath);
        needWithin(degrees, LEAST_HEAT, MOST_HEAT);
        if (it.state != 's' || it.row.count == 0) {
            throw new UnsupportedOperationException("not soft or without teeth");
        }
        if (degrees < HOT - it.carbon) {
            return 0;
        }
        random = random * Z_FACTOR % Z_MODULUS;
        it.quench(degrees, forceOf(bath), (int) (random % 5));
        return it.hardness;
    }

    public int hardness(int tool) throws IndexOutOfBoundsException {
        return needTool(tool).hardness;
    }

    public int bend(int tool) throws IndexOutOfBoundsException {
        return needTool(tool).bend;
    }

    public int temper(int tool, int degrees)
            throws IndexOutOfBoundsException, IllegalArgumentException, UnsupportedOperationException {
        Tool it = needTool(tool);
        needWithin(degrees, LEAST_TEMPERING, MOST_TEMPERING);
        needHard(it);
        it.hardness = Math.max(1, it.hardness - degrees / 25);
        it.straighteningsLeft = STRAIGHTENINGS;
        return it.hardness;
    }

    public int straighten(int tool, int by)
            throws IndexOutOfBoundsException, IllegalArgumentException, UnsupportedOperationException {
        Tool it = needTool(tool);
        needWithin(by, 1, MOST_STRAIGHTENING);
        if (it.straighteningsLeft == 0) {
            throw new UnsupportedOperationException("not warm, or straightened twice");
        }
        it.straighteningsLeft--;
        it.bend = Math.max(0, it.bend - by);
        return it.bend;
    }

    public int seed(int z) throws IllegalArgumentException {
        needWithin(z, 1, 2147483646);
        int before = (int) random;
        random = z;
        return before;
    }

    // ---- strokes and recutting

    public int strokes(int tool, int metal, int strokes)
            throws IndexOutOfBoundsException, IllegalArgumentException, UnsupportedOperationException {
        Tool it = needTool(tool);
        needWithin(metal, SOFTEST_METAL, MOST_METAL);
        needWithin(strokes, 1, MOST_STROKES);
        needHard(it);
        return it.bite(metal, strokes);
    }

    public int chips(int tool) throws IndexOutOfBoundsException {
        return needTool(tool).chips;
    }

    public int brush(int tool) throws IndexOutOfBoundsException {
        Tool it = needTool(tool);
        int before = it.chips;
        it.chips = 0;
        it.cool();
        return before;
    }

    public int work(int tool) throws IndexOutOfBoundsException {
        return needTool(tool).work;
    }

    public int soften(int tool) throws IndexOutOfBoundsException, UnsupportedOperationException {
        Tool it = needTool(tool);
        needHard(it);
        int before = it.hardness;
        it.state = 's';
        it.hardness = 0;
        it.cool();
        return before;
    }

    public int grind(int tool) throws IndexOutOfBoundsException, UnsupportedOperationException {
        Tool it = needTool(tool);
        if (it.state != 's' || it.row.count == 0 || it.groundThickness() < LEAST_THICKNESS) {
            throw new UnsupportedOperationException("not soft, without teeth or too thin");
        }
        it.takeTeethOff();
        return it.thickness;
    }

    public int recuts(int tool) throws IndexOutOfBoundsException {
        return needTool(tool).recuts;
    }

    public int recutsLeft(int tool, char name) throws IndexOutOfBoundsException, IllegalArgumentException {
        Tool it = needTool(tool);
        needCut(name);
        int left = it.thickness;
        int first = 0;
        if (it.row.count > 0) {
            left = it.groundThickness();
            first = 1;
        }
        int each = depthOf(name, it.shape) + GROUND_BESIDE_DEPTH;
        // A recut never takes less than 5 off, but a divisor is looked at first.
        if (left < LEAST_THICKNESS || each <= 0) {
            return 0;
        }
        return first + (left - LEAST_THICKNESS) / each;
    }

    // ---- orders

    public int order(char shape, char name, int many) throws IllegalArgumentException, IllegalStateException {
        needShape(shape);
        needCut(name);
        needWithin(many, 1, MOST_ORDERED);
        if (orderCount >= MAX_ORDERS) {
            throw new IllegalStateException("there are 6 orders");
        }
        orders[orderCount] = new Order(shape, name, many);
        orderCount++;
        return orderCount - 1;
    }

    public boolean isGood(int tool, int order) throws IndexOutOfBoundsException {
        Tool it = needTool(tool);
        return needOrder(order).takes(it);
    }

    public int send(int tool, int order) throws IndexOutOfBoundsException, UnsupportedOperationException {
        Tool it = needTool(tool);
        Order to = needOrder(order);
        if (!to.takes(it) || to.sent >= to.many) {
            throw new UnsupportedOperationException("not good, or the order is full");
        }
        tools[tool] = null;
        to.sent++;
        return to.sent;
    }

    public int sent(int order) throws IndexOutOfBoundsException {
        return needOrder(order).sent;
    }

    public float wornShare() throws ArithmeticException {
        int worn = 0;
        int all = 0;
        for (int i = 0; i < MAX_TOOLS; i++) {
            if (tools[i] != null) {
                worn += tools[i].row.lostOnes();
                all += tools[i].row.count;
            }
        }
        if (all == 0) {
            throw new ArithmeticException("no teeth");
        }
        return (float) worn / (float) all;
    }

    public double meanHardness() throws ArithmeticException {
        int sum = 0;
        int many = 0;
        for (int i = 0; i < MAX_TOOLS; i++) {
            if (tools[i] != null && tools[i].state == 'h') {
                sum += tools[i].hardness;
                many++;
            }
        }
        if (many == 0) {
            throw new ArithmeticException("no hard tools");
        }
        return (double) sum / (double) many;
    }

    public long checksum() {
        long sum = 7;
        for (int i = 0; i < MAX_TOOLS; i++) {
            if (tools[i] != null) {
                sum = tools[i].addTo(sum);
            }
        }
        return 31 * sum + random;
    }

    public boolean isSound() {
        for (int i = 0; i < MAX_TOOLS; i++) {
            if (tools[i] != null && !isSoundTool(tools[i])) {
                return false;
            }
        }
        return true;
    }

    // ---- what the calls have in common

    private boolean isSoundTool(Tool it) {
        // The set of a saw may have been taken back under full gullets; what is in them is too much then.
        return it.row.placesAreDue(it.length)
                && it.row.highest() <= it.row.depth
                && it.chips <= it.holds() + it.oneMoreBite()
                && (it.state != 'h' || strokesOnCopyAsDue(it));
    }

    private boolean strokesOnCopyAsDue(Tool it) {
        int room = it.holds() - it.chips;
        copy.become(it.row);
        int bitten = copy.stroke(it.hardness, SOFTEST_METAL, room);
        return bitten == it.row.biteAhead(biteOf(it.hardness, SOFTEST_METAL), room);
    }

    private Tool needTool(int tool) {
        if (tool < 0 || tool >= MAX_TOOLS || tools[tool] == null) {
            throw new IndexOutOfBoundsException("no such tool");
        }
        return tools[tool];
    }

    private Order needOrder(int order) {
        if (order < 0 || order >= MAX_ORDERS || orders[order] == null) {
            throw new IndexOutOfBoundsException("no such order");
        }
        return orders[order];
    }

    private static void needTooth(Row row, int tooth) {
        if (tooth < 0 || tooth >= row.count) {
            throw new NoSuchElementException("no such tooth");
        }
    }

    private static void needHard(Tool it) {
        if (it.state != 'h') {
            throw new UnsupportedOperationException("not hard");
        }
    }

    private static void needShape(char shape) {
        if (shape != 'f' && shape != 'h' && shape != 's') {
            throw new IllegalArgumentException("no such shape");
        }
    }

    private static void needCut(char name) {
        if (name != 'b' && name != 's' && name != 'm') {
            throw new IllegalArgumentException("no such cut");
        }
    }

    private static void needBath(char bath) {
        if (bath != 'o' && bath != 'w' && bath != 'b') {
            throw new IllegalArgumentException("no such bath");
        }
    }

    private static void needWithin(int number, int least, int most) {
        if (number < least || number > most) {
            throw new IllegalArgumentException("a number is out of range");
        }
    }

    private static int pitchOf(char name) {
        return name == 'b' ? 6 : name == 's' ? 4 : 3;
    }

    private static int depthOf(char name, char shape) {
        int depth = name == 'b' ? 9 : name == 's' ? 6 : 4;
        return shape == 'h' ? depth - 1 : depth;
    }

    private static int forceOf(char bath) {
        return bath == 'o' ? 4 : bath == 'w' ? 8 : 12;
    }

    /** What a tooth that is high enough bites. */
    private static int biteOf(int hardness, int metal) {
        return hardness > metal ? 1 + (hardness - metal) / 10 : 0;
    }

    /** The teeth of one tool; its arrays are made once and used again by each cut. */
    private static final class Row {
        private char name;
        private int depth;
        private int spread;
        private int count;
        private boolean isUpcut;
        private final int[] places;
        private final int[] heights;
        private final int[] wears;

        Row() {
            places = new int[MAX_TEETH];
            heights = new int[MAX_TEETH];
            wears = new int[MAX_TEETH];
        }

        void fill(char newName, int newDepth, int newSpread, int length) {
            name = newName;
            depth = newDepth;
            spread = newSpread;
            isUpcut = false;
            count = 0;
            int at = 0;
            for (int i = 0; i < MAX_TEETH && at < length; i++) {
                places[i] = at;
                heights[i] = depth;
                wears[i] = 0;
                count = i + 1;
                at += stepBehind(i);
            }
        }

        void clear() {
            depth = 0;
            count = 0;
            isUpcut = false;
        }

        void become(Row other) {
            name = other.name;
            depth = other.depth;
            spread = other.spread;
            count = other.count;
            isUpcut = other.isUpcut;
            System.arraycopy(other.places, 0, places, 0, MAX_TEETH);
            System.arraycopy(other.heights, 0, heights, 0, MAX_TEETH);
            System.arraycopy(other.wears, 0, wears, 0, MAX_TEETH);
        }

        /** How much farther on than a tooth the next one stands. */
        int stepBehind(int tooth) {
            return pitchOf(name) + spread * (tooth % 3);
        }

        void lowerAll() {
            isUpcut = true;
            for (int i = 0; i < count; i++) {
                heights[i] = Math.max(0, heights[i] - 1);
            }
        }

        int highest() {
            int most = 0;
            for (int i = 0; i < count; i++) {
                most = Math.max(most, heights[i]);
            }
            return most;
        }

        boolean isEven() {
            for (int i = 2; i < count; i++) {
                if (places[i] - places[i - 1] != places[1] - places[0]) {
                    return false;
                }
            }
            return count >= 3;
        }

        /** One stroke into gullets with so much room; answers what it bites. */
        int stroke(int hardness, int metal, int room) {
            int bite = biteOf(hardness, metal);
            int bitten = 0;
            for (int i = 0; i < count && bitten < room; i++) {
                if (heights[i] > 0) {
                    bitten += Math.min(bite, heights[i]);
                    wearTooth(i, metal);
                }
            }
            return bitten;
        }

        void wearTooth(int tooth, int metal) {
            int sum = wears[tooth] + metal;
            heights[tooth] = Math.max(0, heights[tooth] - sum / WEAR_OF_ONE_HEIGHT);
            wears[tooth] = sum % WEAR_OF_ONE_HEIGHT;
        }

        /** What one stroke would bite, told without a stroke: a tooth of no height bites nothing by itself. */
        int biteAhead(int bite, int room) {
            int sum = 0;
            for (int i = 0; i < count; i++) {
                if (sum < room) {
                    sum += Math.min(bite, heights[i]);
                }
            }
            return sum;
        }

        int lostOnes() {
            int lost = 0;
            for (int i = 0; i < count; i++) {
                if (hasLost(i)) {
                    lost++;
                }
            }
            return lost;
        }

        /** No depth is below 3, so a tooth that wear took to 0 counts as lost behind an upcut too. */
        boolean hasLost(int tooth) {
            return heights[tooth] < (isUpcut ? depth - 1 : depth);
        }

        boolean isFresh() {
            for (int i = 0; i < count; i++) {
                if (hasLost(i) || wears[i] != 0) {
                    return false;
                }
            }
            return true;
        }

        boolean placesAreDue(int length) {
            int at = 0;
            for (int i = 0; i < count; i++) {
                if (places[i] != at || at >= length) {
                    return false;
                }
                at += stepBehind(i);
            }
            return count == 0 || count == MAX_TEETH || at >= length;
        }
    }

    /** A blank, with the teeth that it has now. */
    private static final class Tool {
        private final char shape;
        private final int length;
        private final int carbon;
        private int thickness;
        private char state;
        private final Row row;
        private int sawSet;
        private int hardness;
        private int bend;
        /** Above 0 only in the warm: a tool that is cold can't be straightened either. */
        private int straighteningsLeft;
        private int chips;
        /** The most that a tooth could bite as the chips fell in; without chips it tells nothing. */
        private int biteOfChips;
        private int work;
        private int recuts;

        Tool(char ofShape, int ofLength, int ofThickness, int ofCarbon) {
            shape = ofShape;
            length = ofLength;
            thickness = ofThickness;
            carbon = ofCarbon;
            state = 's';
            row = new Row();
        }

        void cool() {
            straighteningsLeft = 0;
        }

        /** What the gullets hold; tools that are no saws have a set of 0. */
        int holds() {
            return (row.depth + sawSet) * row.count;
        }

        void quench(int degrees, int force, int chance) {
            int reached = carbon / 2 + force;
            if (degrees > HOT) {
                reached -= (degrees - HOT) / 20;
            }
            hardness = Math.min(MOST_HARDNESS, Math.max(1, reached));
            // A thickness is never below 20, but a divisor is looked at first.
            int warp = thickness > 0 ? force * length / (20 * thickness) : 0;
            bend += warp + chance;
            state = bend > CRACKING_BEND ? 'c' : 'h';
        }

        int bite(int metal, int strokes) {
            cool();
            int most = greatestBite();
            int earlier = chips > 0 ? biteOfChips : 0;
            int bitten = 0;
            for (int i = 0; i < strokes; i++) {
                int now = row.stroke(hardness, metal, holds() - chips);
                chips += now;
                bitten += now;
            }
            if (bitten > 0) {
                biteOfChips = Math.max(earlier, most);
            }
            work += bitten;
            return bitten;
        }

        /** The most that a tooth bites by now: a bite goes up to the height, but is not the height. */
        int greatestBite() {
            return state == 'h' ? Math.min(row.highest(), biteOf(hardness, SOFTEST_METAL)) : 0;
        }

        /** What fell in stays sound behind tempering, softening and wear, by which a tool bites less. */
        int oneMoreBite() {
            return Math.max(biteOfChips, greatestBite());
        }

        int groundThickness() {
            return thickness - GROUND_BESIDE_DEPTH - row.depth;
        }

        void takeTeethOff() {
            thickness = groundThickness();
            row.clear();
            sawSet = 0;
            chips = 0;
            recuts++;
        }

        long addTo(long before) {
            long sum = 31 * before + thickness;
            sum = 31 * sum + hardness;
            sum = 31 * sum + bend;
            for (int i = 0; i < row.count; i++) {
                sum = 31 * sum + row.heights[i];
            }
            return sum;
        }
    }

    /** So many tools of a shape and a cut that somebody wants. */
    private static final class Order {
        private final char shape;
        private final char name;
        private final int many;
        private int sent;

        Order(char ofShape, char ofName, int ofMany) {
            shape = ofShape;
            name = ofName;
            many = ofMany;
        }

        boolean takes(Tool it) {
            return it.shape == shape
                    && it.row.name == name
                    && it.state == 'h'
                    && it.hardness >= GOOD_HARDNESS
                    && it.bend <= GOOD_BEND
                    && !it.row.isEven()
                    && it.row.isFresh();
        }
    }
}
