import java.util.function.Supplier;

/** The promises 21 to 28. */
public final class StrokesTest {
    private StrokesTest() {
    }

    public static void main(String[] args) {
        bites();
        biteUpToTheHeight();
        fullGullets();
        wearsDown();
        toothOfNoHeight();
        strokesRefused();
        chipsBrushWork();
        soften();
        grind();
        grindRefused();
        recutsLeft();
        Check.end();
    }

    /** Nine teeth of the hardness 58. */
    private static int bitten(int metal) {
        Teethrow x = Shops.hardFile();
        int all = x.strokes(0, metal, 1);
        Check.due("chips", x.chips(0), all);
        Check.due("work", x.work(0), all);
        Check.due("wear", x.wear(0, 0), metal);
        return all;
    }

    private static void bites() {
        Check.due("harder by 57", bitten(1), 54);
        Check.due("harder by 50", bitten(8), 54);
        Check.due("harder by 49", bitten(9), 45);
        Check.due("harder by 10", bitten(48), 18);
        Check.due("harder by 9", bitten(49), 9);
        Check.due("harder by 1", bitten(57), 9);
        Check.due("as hard", bitten(58), 0);
        Check.due("softer", bitten(70), 0);
    }

    private static void biteUpToTheHeight() {
        Teethrow x = Shops.cut('h', 'm', 1);
        x.harden(0, 850, 'w');
        // 15 teeth of the height 3 would bite 6 each, were they high enough.
        Check.due("up to the height", x.strokes(0, 1, 1), 45);
        Check.due("full", x.strokes(0, 1, 1), 0);
        x.brush(0);
        x.strokes(0, 60, 2);
        Check.due("lower", x.height(0, 14), 2);
        Check.due("up to what is left", x.strokes(0, 1, 1), 30);
        Check.due("wear", x.wear(0, 0), 22);
    }

    private static void fullGullets() {
        Teethrow x = Shops.hardFile();
        // The gullets hold 81: nine bites of 4 twice are 72, two more are 80, a third one falls in all the same.
        Check.due("three strokes", x.strokes(0, 20, 3), 84);
        Check.due("chips", x.chips(0), 84);
        Check.due("the third tooth", x.wear(0, 2), 60);
        Check.due("the fourth tooth", x.wear(0, 3), 40);
        Check.due("more strokes", x.strokes(0, 20, 40), 0);
        Check.due("no wear by them", x.wear(0, 0), 60);
        Check.due("not by a harder metal either", x.strokes(0, 70, 1), 0);
        Check.due("no wear by that", x.wear(0, 0), 60);
        Check.due("isSound", x.isSound(), true);
        Teethrow saw = Shops.hardSaw();
        saw.set(0, 1);
        Check.due("a saw's gullets", saw.strokes(0, 20, 3), 92);
        saw.set(0, 2);
        Check.due("wider set", saw.strokes(0, 20, 1), 8);
        Check.due("the ends", saw.wear(0, 0) + saw.wear(0, 1) + saw.wear(0, 2), 80 + 80 + 60);
        // Just full gullets take no more.
        Teethrow just = Shops.blank('f', 60, 40, 84);
        just.cut(0, 'b', 1);
        just.harden(0, 850, 'w');
        Check.due("hardness", just.hardness(0), 50);
        Check.due("just full", just.strokes(0, 30, 4), 81);
        Check.due("all thrice", just.wear(0, 0), 90);
        Check.due("the last thrice", just.wear(0, 8), 90);
    }

    private static void wearsDown() {
        Teethrow x = Shops.hardFile();
        Check.due("nothing", x.strokes(0, 70, 1), 0);
        Check.due("wear 70", x.wear(0, 4), 70);
        Check.due("height 9", x.height(0, 4), 9);
        x.strokes(0, 70, 1);
        Check.due("wear 140", x.wear(0, 4), 40);
        Check.due("height 8", x.height(0, 4), 8);
        x.strokes(0, 60, 1);
        Check.due("wear just 100", x.wear(0, 4), 0);
        Check.due("height 7", x.height(0, 4), 7);
        Check.due("work", x.work(0), 0);
        Check.due("chips", x.chips(0), 0);
        Check.due("gullets by the depth", x.gullets(0), 81);
    }

    private static void toothOfNoHeight() {
        Teethrow x = Shops.hardFile();
        x.strokes(0, 70, 12);
        Check.due("840 of wear", x.height(0, 0), 1);
        Check.due("wear at 1", x.wear(0, 0), 40);
        Check.due("bites of 1", x.strokes(0, 1, 1), 9);
        x.strokes(0, 70, 1);
        Check.due("height 0", x.height(0, 0), 0);
        Check.due("the wear that is left", x.wear(0, 0), 11);
        Check.due("nothing bitten", x.strokes(0, 1, 40), 0);
        x.strokes(0, 70, 40);
        Check.due("wear as before", x.wear(0, 0), 11);
        Check.due("height as before", x.height(0, 0), 0);
        Check.due("isSound", x.isSound(), true);
        // The first teeth are worn off; those behind them still bite.
        Teethrow y = Shops.hardFile();
        for (int i = 0; i < 70 && y.height(0, 0) > 0; i++) {
            y.strokes(0, 20, 3);
            y.brush(0);
        }
        Check.due("the first is off", y.height(0, 0), 0);
        Check.due("the last is not", y.height(0, 8) > 0, true);
        int first = y.wear(0, 0);
        Check.due("those behind it bite", y.strokes(0, 20, 1) > 0, true);
        Check.due("the first does nothing", y.wear(0, 0), first);
    }

    private static void strokesRefused() {
        Check.refusedNumbers("strokes", Shops::hardFile, (x, tool) -> x.strokes(tool, 20, 1));
        Check.refused("strokes of none, and wrong", IndexOutOfBoundsException.class, Shops::hardFile,
                x -> x.strokes(1, 0, 0));
        for (int metal : new int[] {0, 71, -1, Integer.MIN_VALUE, Integer.MAX_VALUE}) {
            Check.refused("metal " + metal, IllegalArgumentException.class, Shops::warmFile,
                    x -> x.strokes(0, metal, 1));
            Check.refused("metal, soft " + metal, IllegalArgumentException.class, Shops::softFile,
                    x -> x.strokes(0, metal, 1));
        }
        for (int strokes : new int[] {0, 41, -1, Integer.MIN_VALUE, Integer.MAX_VALUE}) {
            Check.refused("strokes " + strokes, IllegalArgumentException.class, Shops::warmFile,
                    x -> x.strokes(0, 20, strokes));
            Check.refused("strokes, soft " + strokes, IllegalArgumentException.class, Shops::softFile,
                    x -> x.strokes(0, 20, strokes));
        }
        Check.refused("strokes of a blank", UnsupportedOperationException.class, Shops::file,
                x -> x.strokes(0, 20, 1));
        Check.refused("strokes of a soft one", UnsupportedOperationException.class, Shops::softFile,
                x -> x.strokes(0, 20, 1));
        Check.refused("strokes of a cracked one", UnsupportedOperationException.class, () -> Shops.crackedTool('f'),
                x -> x.strokes(0, 20, 1));
        Check.due("most strokes", Shops.hardFile().strokes(0, 57, 40), 81);
    }

    private static void chipsBrushWork() {
        Teethrow x = Shops.file();
        Check.due("chips of a blank", x.chips(0), 0);
        Check.due("brush of a blank", x.brush(0), 0);
        Check.due("work of a blank", x.work(0), 0);
        Teethrow y = Shops.hardFile();
        y.strokes(0, 20, 2);
        Check.due("chips", y.chips(0), 72);
        Check.due("brush", y.brush(0), 72);
        Check.due("chips brushed", y.chips(0), 0);
        Check.due("brush again", y.brush(0), 0);
        Check.due("work brushed", y.work(0), 72);
        y.strokes(0, 20, 1);
        Check.due("work in all", y.work(0), 108);
        y.soften(0);
        Check.due("chips softened", y.chips(0), 36);
        Check.due("work softened", y.work(0), 108);
        y.grind(0);
        Check.due("chips ground", y.chips(0), 0);
        Check.due("work ground", y.work(0), 108);
        Check.refusedNumbers("chips", Shops::hardFile, (z, tool) -> z.chips(tool));
        Check.refusedNumbers("brush", Shops::hardFile, (z, tool) -> z.brush(tool));
        Check.refusedNumbers("work", Shops::hardFile, (z, tool) -> z.work(tool));
        Check.due("brush of a cracked one", Shops.crackedTool('f').brush(0), 0);
    }

    private static void soften() {
        Teethrow x = Shops.hardFile();
        x.strokes(0, 60, 2);
        x.temper(0, 100);
        Check.due("soften", x.soften(0), 54);
        Check.due("state", x.state(0), 's');
        Check.due("hardness", x.hardness(0), 0);
        Check.due("teeth stay", x.teeth(0), 9);
        Check.due("wear stays", x.wear(0, 0), 20);
        Check.due("height stays", x.height(0, 0), 8);
        Check.due("harden again", x.harden(0, 850, 'o'), 54);
        Check.refusedNumbers("soften", Shops::hardFile, (y, tool) -> y.soften(tool));
        Check.refused("soften of a soft one", UnsupportedOperationException.class, Shops::softFile, y -> y.soften(0));
        Check.refused("soften of a blank", UnsupportedOperationException.class, Shops::file, y -> y.soften(0));
        Check.refused("soften of a cracked one", UnsupportedOperationException.class, () -> Shops.crackedTool('f'),
                y -> y.soften(0));
        Teethrow saw = Shops.hardSaw();
        saw.set(0, 4);
        saw.soften(0);
        Check.due("set stays", saw.kerf(0), 48);
    }

    private static void grind() {
        Teethrow x = Shops.hardFile();
        x.strokes(0, 60, 40);
        x.soften(0);
        x.upcut(0);
        Check.due("grind by the depth", x.grind(0), 29);
        Check.due("thickness", x.thickness(0), 29);
        Check.due("recuts", x.recuts(0), 1);
        Check.due("teeth", x.teeth(0), 0);
        Check.due("cut again", x.cut(0, 's', 1), 12);
        Check.due("height", x.height(0, 0), 6);
        Check.due("wear", x.wear(0, 0), 0);
        Check.due("grind again", x.grind(0), 21);
        Check.due("recuts again", x.recuts(0), 2);
        Check.due("half round", Shops.cut('h', 'b', 1).grind(0), 30);
        Check.due("down to 20", ofThickness(31).grind(0), 20);
        Check.due("recuts of a blank", Shops.file().recuts(0), 0);
        Check.refusedNumbers("recuts", Shops::hardFile, (y, tool) -> y.recuts(tool));
    }

    private static Teethrow ofThickness(int thickness) {
        Teethrow x = Shops.blank('f', 60, thickness, 100);
        x.cut(0, 'b', 1);
        return x;
    }

    private static void grindRefused() {
        Check.refusedNumbers("grind", Shops::softFile, (x, tool) -> x.grind(tool));
        refusedGrind("a hard one", Shops::hardFile);
        refusedGrind("a cracked one", () -> Shops.crackedTool('f'));
        refusedGrind("a blank", Shops::file);
        refusedGrind("one too thin", () -> ofThickness(30));
        refusedGrind("one ground already", () -> {
            Teethrow x = Shops.softFile();
            x.grind(0);
            return x;
        });
    }

    private static void refusedGrind(String what, Supplier<Teethrow> setup) {
        Check.refused("grind of " + what, UnsupportedOperationException.class, setup, x -> x.grind(0));
    }

    private static void recutsLeft() {
        for (char shape : new char[] {'f', 'h', 's'}) {
            for (char name : new char[] {'b', 's', 'm'}) {
                for (int thickness = 20; thickness <= 99; thickness++) {
                    Teethrow blank = Shops.blank(shape, 50, thickness, 100);
                    recutsLeftAreSo(blank, name, "blank " + shape + name + thickness);
                    Teethrow toothed = Shops.blank(shape, 50, thickness, 100);
                    toothed.cut(0, 'b', 1);
                    recutsLeftAreSo(toothed, name, "bastard " + shape + name + thickness);
                }
            }
        }
        Teethrow thin = ofThickness(30);
        Check.due("none for teeth that can't be ground away", thin.recutsLeft(0, 'm'), 0);
        Check.due("cracked and thin", Shops.crackedTool('f').recutsLeft(0, 'm'), 0);
        Check.due("cracked or not", crackedThickOne().recutsLeft(0, 'm'), 1 + (50 - 6 - 20) / 6);
        Check.due("hard", Shops.hardFile().recutsLeft(0, 'b'), 1);
        Check.due("upcut aside", upcutOne().recutsLeft(0, 'b'), 1);
        Check.refusedNumbers("recutsLeft", Shops::hardFile, (x, tool) -> x.recutsLeft(tool, 'b'));
        Check.refusedNumbers("recutsLeft, and wrong", Shops::hardFile, (x, tool) -> x.recutsLeft(tool, 'x'));
        for (char name : new char[] {'x', 'B', 'f', 'h', 'o', 0, 0xffff}) {
            Check.refused("recutsLeft " + (int) name, IllegalArgumentException.class, Shops::softFile,
                    x -> x.recutsLeft(0, name));
        }
    }

    private static Teethrow crackedThickOne() {
        Teethrow x = Shops.blank('f', 200, 50, 100);
        x.cut(0, 'm', 1);
        x.harden(0, 850, 'b');
        for (int i = 0; i < 40 && x.state(0) == 'h'; i++) {
            x.soften(0);
            x.harden(0, 850, 'b');
        }
        Check.due("cracked", x.state(0), 'c');
        return x;
    }

    private static Teethrow upcutOne() {
        Teethrow x = Shops.softFile();
        x.upcut(0);
        return x;
    }

    /** Recuts the tool as long as it can be done. */
    private static void recutsLeftAreSo(Teethrow x, char name, String what) {
        int told = x.recutsLeft(0, name);
        int done = 0;
        boolean more = true;
        while (more) {
            if (x.teeth(0) == 0) {
                x.cut(0, name, 1);
            }
            more = !Check.outcome(() -> x.grind(0)).startsWith("throws");
            done += more ? 1 : 0;
        }
        Check.due("recutsLeft " + what, told, done);
        Check.due("recuts " + what, x.recuts(0), done);
    }
}
