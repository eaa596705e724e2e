/** Shops with one tool 0, as the tests begin with them. */
final class Shops {
    private Shops() {
    }

    static Teethrow blank(char shape, int length, int thickness, int carbon) {
        Teethrow x = new Teethrow();
        x.blank(shape, length, thickness, carbon);
        return x;
    }

    /** A flat blank without teeth. */
    static Teethrow file() {
        return blank('f', 50, 40, 100);
    }

    static Teethrow cut(char shape, char name, int spread) {
        Teethrow x = blank(shape, 60, 40, 100);
        x.cut(0, name, spread);
        return x;
    }

    /** Nine bastard teeth at 0 7 15 24 31 39 48 55 ..; soft. */
    static Teethrow softFile() {
        return cut('f', 'b', 1);
    }

    /** The same, of the hardness 58 and the bend 1. */
    static Teethrow hardFile() {
        Teethrow x = softFile();
        x.harden(0, 850, 'w');
        return x;
    }

    static Teethrow hardSaw() {
        Teethrow x = cut('s', 'b', 1);
        x.harden(0, 850, 'w');
        return x;
    }

    static Teethrow warmFile() {
        Teethrow x = hardFile();
        x.temper(0, 100);
        return x;
    }

    /** A thin, long tool that brine bends beyond 30: 12 * 200 / (20 * 20) = 6 each time, and the rest by 5 of z. */
    static Teethrow crackedTool(char shape) {
        Teethrow x = blank(shape, 200, 20, 140);
        x.cut(0, 'm', 1);
        for (int i = 0; i < 10 && x.state(0) != 'c'; i++) {
            if (x.state(0) == 'h') {
                x.soften(0);
            }
            x.harden(0, 850, 'b');
        }
        return x;
    }

    /** A file that is good for the order 0 of one flat one, second cut. */
    static Teethrow goodFile() {
        Teethrow x = blank('f', 50, 90, 120);
        x.cut(0, 's', 1);
        x.harden(0, 850, 'o');
        x.order('f', 's', 1);
        return x;
    }

    /** So many files, numbered from 0, each of the bend 1 and good for an order of flat ones, second cut. */
    static Teethrow goodFiles(int many) {
        Teethrow x = new Teethrow();
        for (int i = 0; i < many; i++) {
            x.blank('f', 50, 90, 120);
            x.cut(i, 's', 1);
            x.seed(1);
            x.harden(i, 850, 'o');
        }
        return x;
    }

    static Teethrow warmSaw() {
        Teethrow x = hardSaw();
        x.temper(0, 100);
        return x;
    }

    /** The longest row that there is, 60 teeth, of the hardness 58. */
    static Teethrow longest(char shape) {
        Teethrow x = blank(shape, 200, 40, 100);
        x.cut(0, 'm', 0);
        x.harden(0, 850, 'w');
        return x;
    }
}
