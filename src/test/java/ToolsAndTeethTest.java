import java.util.function.Supplier;

/** The promises 1 to 14. */
public final class ToolsAndTeethTest {
    private ToolsAndTeethTest() {
    }

    public static void main(String[] args) {
        newObject();
        blank();
        cut();
        cutRefused();
        longestRows();
        upcut();
        upcutOfWornTeeth();
        upcutRefused();
        teethPlacesHeightsWear();
        questionsRefused();
        sings();
        set();
        setRefused();
        kerfGulletsThicknessState();
        Check.end();
    }

    private static void newObject() {
        Teethrow x = new Teethrow();
        Check.due("checksum of a new one", x.checksum(), 218);
        Check.due("isSound of a new one", x.isSound(), true);
        Check.due("first tool", x.blank('s', 50, 20, 40), 0);
        Check.due("first order", x.order('s', 'b', 1), 0);
        Check.due("z of a new one", x.seed(5), 1);
        Check.refused("teeth without tools", IndexOutOfBoundsException.class, Teethrow::new, y -> y.teeth(0));
        Check.refused("sent without orders", IndexOutOfBoundsException.class, Teethrow::new, y -> y.sent(0));
    }

    private static void blank() {
        Teethrow x = new Teethrow();
        Check.due("blank least", x.blank('f', 50, 20, 40), 0);
        Check.due("blank most", x.blank('h', 200, 99, 140), 1);
        Check.due("thickness least", x.thickness(0), 20);
        Check.due("thickness most", x.thickness(1), 99);
        Check.due("state", x.state(0), 's');
        Check.due("teeth", x.teeth(1), 0);
        for (char shape : new char[] {'x', 'F', 'b', 'm', 'c', 0, 0xffff}) {
            refusedBlank(shape, 100, 40, 80);
        }
        for (int length : new int[] {49, 201, 0, -100, Integer.MIN_VALUE, Integer.MAX_VALUE}) {
            refusedBlank('f', length, 40, 80);
        }
        for (int thickness : new int[] {19, 100, 0, -40, Integer.MIN_VALUE, Integer.MAX_VALUE}) {
            refusedBlank('h', 100, thickness, 80);
        }
        for (int carbon : new int[] {39, 141, 0, -80, Integer.MIN_VALUE, Integer.MAX_VALUE}) {
            refusedBlank('s', 100, 40, carbon);
        }
        Check.refused("a ninth", IllegalStateException.class, ToolsAndTeethTest::eight, y -> y.blank('f', 50, 20, 40));
        Check.refused("a ninth that is wrong", IllegalArgumentException.class, ToolsAndTeethTest::eight,
                y -> y.blank('f', 49, 20, 40));
        Check.refused("a ninth behind one that is sent", IllegalStateException.class, () -> {
            Teethrow y = Shops.goodFile();
            for (int i = 1; i < 8; i++) {
                Check.due("number", y.blank('f', 50, 20, 40), i);
            }
            y.send(0, 0);
            return y;
        }, y -> y.blank('f', 50, 20, 40));
    }

    private static Teethrow eight() {
        Teethrow x = new Teethrow();
        for (int i = 0; i < 8; i++) {
            Check.due("number", x.blank('f', 50 + i, 20, 40), i);
        }
        return x;
    }

    private static void refusedBlank(char shape, int length, int thickness, int carbon) {
        Check.refused("blank " + (int) shape + " " + length + " " + thickness + " " + carbon,
                IllegalArgumentException.class, Shops::file, x -> x.blank(shape, length, thickness, carbon));
    }

    private static void cut() {
        cutOnce('f', 'b', 0, new int[] {0, 6, 12, 18, 24, 30, 36, 42, 48, 54}, 9);
        cutOnce('f', 'b', 1, new int[] {0, 6, 13, 21, 27, 34, 42, 48, 55}, 9);
        cutOnce('s', 'b', 3, new int[] {0, 6, 15, 27, 33, 42, 54}, 9);
        cutOnce('h', 'b', 2, new int[] {0, 6, 14, 24, 30, 38, 48, 54}, 8);
        cutOnce('h', 's', 3, new int[] {0, 4, 11, 21, 25, 32, 42, 46, 53}, 5);
        cutOnce('s', 's', 2, new int[] {0, 4, 10, 18, 22, 28, 36, 40, 46, 54, 58}, 6);
        cutOnce('h', 'm', 3, new int[] {0, 3, 9, 18, 21, 27, 36, 39, 45, 54, 57}, 3);
        cutOnce('f', 'm', 1, new int[] {0, 3, 7, 12, 15, 19, 24, 27, 31, 36, 39, 43, 48, 51, 55}, 4);
    }

    private static void cutOnce(char shape, char name, int spread, int[] places, int depth) {
        Teethrow x = Shops.blank(shape, 60, 40, 100);
        String what = "" + shape + name + spread;
        Check.due("cut " + what, x.cut(0, name, spread), places.length);
        Check.due("teeth " + what, x.teeth(0), places.length);
        Check.due("gullets " + what, x.gullets(0), depth * places.length);
        for (int i = 0; i < places.length; i++) {
            Check.due("place " + what + " " + i, x.place(0, i), places[i]);
            Check.due("height " + what + " " + i, x.height(0, i), depth);
            Check.due("wear " + what + " " + i, x.wear(0, i), 0);
        }
        Check.due("thickness stays", x.thickness(0), 40);
        Check.due("soft stays", x.state(0), 's');
    }

    private static void longestRows() {
        Teethrow x = Shops.blank('f', 200, 40, 100);
        Check.due("at most 60", x.cut(0, 'm', 0), 60);
        Check.due("the last", x.place(0, 59), 177);
        x.blank('f', 180, 40, 100);
        Check.due("60 that just end", x.cut(1, 'm', 0), 60);
        x.blank('f', 178, 40, 100);
        Check.due("the last below the length", x.cut(2, 'm', 0), 60);
        x.blank('f', 177, 40, 100);
        Check.due("none at the length", x.cut(3, 'm', 0), 59);
        x.blank('s', 200, 40, 100);
        Check.due("bastard", x.cut(4, 'b', 0), 34);
        x.blank('s', 198, 40, 100);
        Check.due("bastard, none at the length", x.cut(5, 'b', 0), 33);
        Check.due("isSound", x.isSound(), true);
    }

    private static void cutRefused() {
        Check.refusedNumbers("cut", Shops::file, (x, tool) -> x.cut(tool, 'b', 1));
        Check.refused("cut of none, and wrong", IndexOutOfBoundsException.class, Shops::file, x -> x.cut(1, 'x', 9));
        for (char name : new char[] {'x', 'B', 'f', 'h', 'o', 0, 0xffff}) {
            Check.refused("cut " + (int) name, IllegalArgumentException.class, Shops::file, x -> x.cut(0, name, 1));
        }
        for (int spread : new int[] {-1, 4, Integer.MIN_VALUE, Integer.MAX_VALUE}) {
            Check.refused("spread " + spread, IllegalArgumentException.class, Shops::file, x -> x.cut(0, 'b', spread));
        }
        Check.refused("cut again", UnsupportedOperationException.class, Shops::softFile, x -> x.cut(0, 'm', 1));
        Check.refused("cut again, and wrong", IllegalArgumentException.class, Shops::softFile, x -> x.cut(0, 'm', 4));
        Check.refused("cut of a hard one", UnsupportedOperationException.class, Shops::hardFile, x -> x.cut(0, 'm', 1));
        Check.refused("cut of a cracked one", UnsupportedOperationException.class, () -> Shops.crackedTool('f'),
                x -> x.cut(0, 'm', 1));
        // No blank of a thickness of 20 or more is ever below the thickest need, 9 and 10.
        Check.due("the thinnest", Shops.blank('f', 50, 20, 40).cut(0, 'b', 0), 9);
    }

    private static void upcut() {
        Teethrow x = Shops.softFile();
        Check.due("upcut", x.upcut(0), 8);
        for (int i = 0; i < x.teeth(0); i++) {
            Check.due("height upcut", x.height(0, i), 8);
            Check.due("wear upcut", x.wear(0, i), 0);
        }
        Check.due("gullets by the depth", x.gullets(0), 81);
        Check.due("half round", Shops.cut('h', 'm', 0).upcut(0), 2);
        x.grind(0);
        x.cut(0, 's', 1);
        Check.due("upcut behind a grinding", x.upcut(0), 5);
    }

    private static void upcutOfWornTeeth() {
        Teethrow x = Shops.hardFile();
        // The teeth wear by 70 a stroke while nothing is bitten: 17 strokes make 1190.
        x.strokes(0, 70, 17);
        x.soften(0);
        Check.due("all are at 0", x.height(0, 0), 0);
        Check.due("the wear that is left", x.wear(0, 0), 10);
        Check.due("upcut at 0", x.upcut(0), 0);
        Check.due("height at 0", x.height(0, 0), 0);
        Teethrow y = Shops.hardFile();
        // The gullets hold 81 and are full at the 21st bite of 4, so the third stroke stops behind the third tooth.
        y.strokes(0, 20, 3);
        y.brush(0);
        y.strokes(0, 20, 3);
        y.soften(0);
        Check.due("a worn tooth", y.height(0, 0), 8);
        Check.due("a tooth less worn", y.height(0, 8), 9);
        Check.due("the highest", y.upcut(0), 8);
        Check.due("the worn one upcut", y.height(0, 0), 7);
    }

    private static void upcutRefused() {
        Check.refusedNumbers("upcut", Shops::softFile, (x, tool) -> x.upcut(tool));
        refusedUpcut("a saw", () -> Shops.cut('s', 'b', 1));
        refusedUpcut("a hard one", Shops::hardFile);
        refusedUpcut("a cracked one", () -> Shops.crackedTool('f'));
        refusedUpcut("one without teeth", Shops::file);
        refusedUpcut("one that is upcut", () -> {
            Teethrow x = Shops.softFile();
            x.upcut(0);
            return x;
        });
        refusedUpcut("one that was upcut and hardened", () -> {
            Teethrow x = Shops.softFile();
            x.upcut(0);
            x.harden(0, 850, 'o');
            x.soften(0);
            return x;
        });
    }

    private static void refusedUpcut(String what, Supplier<Teethrow> setup) {
        Check.refused("upcut of " + what, UnsupportedOperationException.class, setup, x -> x.upcut(0));
    }

    private static void teethPlacesHeightsWear() {
        Check.due("teeth of a blank", Shops.file().teeth(0), 0);
        Teethrow x = Shops.hardFile();
        x.strokes(0, 60, 2);
        Check.due("height worn", x.height(0, 8), 8);
        Check.due("wear behind 100", x.wear(0, 8), 20);
        Check.due("place stays", x.place(0, 8), 55);
        x.soften(0);
        x.grind(0);
        Check.due("teeth behind a grinding", x.teeth(0), 0);
    }

    private static void questionsRefused() {
        Supplier<Teethrow> one = Shops::softFile;
        Check.refusedNumbers("teeth", one, (x, tool) -> x.teeth(tool));
        Check.refusedNumbers("place", one, (x, tool) -> x.place(tool, 0));
        Check.refusedNumbers("height", one, (x, tool) -> x.height(tool, 0));
        Check.refusedNumbers("wear", one, (x, tool) -> x.wear(tool, 0));
        Check.refusedNumbers("place of no tooth", one, (x, tool) -> x.place(tool, -1));
        Check.refusedNumbers("height of no tooth", one, (x, tool) -> x.height(tool, -1));
        Check.refusedNumbers("wear of no tooth", one, (x, tool) -> x.wear(tool, -1));
        Check.refusedNumbers("sings", one, (x, tool) -> x.sings(tool));
        Check.refusedNumbers("kerf", one, (x, tool) -> x.kerf(tool));
        Check.refusedNumbers("gullets", one, (x, tool) -> x.gullets(tool));
        Check.refusedNumbers("thickness", one, (x, tool) -> x.thickness(tool));
        Check.refusedNumbers("state", one, (x, tool) -> x.state(tool));
        for (int tooth : new int[] {-1, 9, 60, 61, Integer.MIN_VALUE, Integer.MAX_VALUE}) {
            Check.missing("place " + tooth, one, x -> x.place(0, tooth));
            Check.missing("height " + tooth, one, x -> x.height(0, tooth));
            Check.missing("wear " + tooth, one, x -> x.wear(0, tooth));
        }
        Check.missing("place of a blank", Shops::file, x -> x.place(0, 0));
        Check.missing("height of a blank", Shops::file, x -> x.height(0, 0));
        Check.missing("wear of a blank", Shops::file, x -> x.wear(0, 0));
        Check.missing("place of one that is ground", ToolsAndTeethTest::ground, x -> x.place(0, 0));
    }

    private static Teethrow ground() {
        Teethrow x = Shops.softFile();
        x.grind(0);
        return x;
    }

    private static void sings() {
        Check.due("a blank", Shops.file().sings(0), false);
        Check.due("ground", ground().sings(0), false);
        for (char name : new char[] {'b', 's', 'm'}) {
            for (int spread = 0; spread <= 3; spread++) {
                Check.due("sings " + name + spread, Shops.cut('s', name, spread).sings(0), spread == 0);
            }
        }
        Teethrow x = Shops.cut('f', 'b', 0);
        x.harden(0, 850, 'w');
        Check.due("hard", x.sings(0), true);
    }

    private static void set() {
        Teethrow x = Shops.cut('s', 'b', 1);
        Check.due("first set", x.set(0, 9), 0);
        Check.due("kerf", x.kerf(0), 58);
        Check.due("gullets", x.gullets(0), 9 * 18);
        Check.due("second set", x.set(0, 4), 9);
        x.harden(0, 850, 'w');
        Check.due("set of a hard one", x.set(0, 0), 4);
        Check.due("no set", x.set(0, 2), 0);
        Check.due("hard stays", x.state(0), 'h');
        x.soften(0);
        x.grind(0);
        Check.due("kerf ground", x.kerf(0), 29);
        x.cut(0, 'm', 1);
        Check.due("set ground away", x.set(0, 1), 0);
        Check.refused("straighten behind a set", UnsupportedOperationException.class, () -> {
            Teethrow y = Shops.hardSaw();
            y.temper(0, 100);
            y.set(0, 0);
            return y;
        }, y -> y.straighten(0, 1));
    }

    private static void setRefused() {
        Check.refusedNumbers("set", Shops::hardSaw, (x, tool) -> x.set(tool, 3));
        Check.refused("set of none, and wrong", IndexOutOfBoundsException.class, Shops::hardSaw, x -> x.set(1, 10));
        for (int by : new int[] {-1, 10, Integer.MIN_VALUE, Integer.MAX_VALUE}) {
            Check.refused("set by " + by, IllegalArgumentException.class, Shops::warmSaw, x -> x.set(0, by));
            Check.refused("set of a file by " + by, IllegalArgumentException.class, Shops::file, x -> x.set(0, by));
        }
        Check.refused("set of a file", UnsupportedOperationException.class, Shops::warmFile, x -> x.set(0, 3));
        Check.refused("set of a half round one", UnsupportedOperationException.class, () -> Shops.cut('h', 'b', 1),
                x -> x.set(0, 3));
        Check.refused("set without teeth", UnsupportedOperationException.class, () -> Shops.blank('s', 60, 40, 100),
                x -> x.set(0, 3));
        Check.refused("set of a cracked one", UnsupportedOperationException.class, () -> Shops.crackedTool('s'),
                x -> x.set(0, 3));
    }

    private static void kerfGulletsThicknessState() {
        Check.due("kerf of a blank", Shops.file().kerf(0), 40);
        Check.due("gullets of a blank", Shops.file().gullets(0), 0);
        Check.due("kerf of a file", Shops.softFile().kerf(0), 40);
        Check.due("gullets of a half round one", Shops.cut('h', 'b', 1).gullets(0), 72);
        Check.due("gullets ground", ground().gullets(0), 0);
        Check.due("thickness ground", ground().thickness(0), 29);
        Check.due("state soft", Shops.softFile().state(0), 's');
        Check.due("state hard", Shops.hardFile().state(0), 'h');
        Check.due("state cracked", Shops.crackedTool('h').state(0), 'c');
        Check.refused("thickness of one that is gone", IndexOutOfBoundsException.class, () -> {
            Teethrow x = Shops.goodFile();
            x.send(0, 0);
            return x;
        }, x -> x.thickness(0));
    }
}
