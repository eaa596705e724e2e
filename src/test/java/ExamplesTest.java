/** The four examples of the document, and the one of README.md. */
public final class ExamplesTest {
    private ExamplesTest() {
    }

    public static void main(String[] args) {
        teethWithASpread();
        fileTriedOnce();
        sawAndItsRecuts();
        fileForAnOrder();
        exampleOfTheReadme();
        Check.end();
    }

    private static void teethWithASpread() {
        Teethrow x = new Teethrow();
        Check.due("blank", x.blank('f', 50, 40, 100), 0);
        Check.due("cut", x.cut(0, 's', 1), 11);
        Check.due("teeth", x.teeth(0), 11);
        Check.due("place 1", x.place(0, 1), 4);
        Check.due("place 2", x.place(0, 2), 9);
        Check.due("place 3", x.place(0, 3), 15);
        Check.due("sings", x.sings(0), false);
    }

    private static void fileTriedOnce() {
        Teethrow x = new Teethrow();
        Check.due("blank", x.blank('f', 60, 40, 100), 0);
        Check.due("cut", x.cut(0, 'b', 1), 9);
        Check.due("harden", x.harden(0, 850, 'w'), 58);
        Check.due("hardness", x.hardness(0), 58);
        Check.due("bend", x.bend(0), 1);
        Check.due("strokes", x.strokes(0, 20, 1), 36);
        Check.due("chips", x.chips(0), 36);
        Check.due("wear", x.wear(0, 0), 20);
        Check.due("brush", x.brush(0), 36);
    }

    private static void sawAndItsRecuts() {
        Teethrow x = new Teethrow();
        Check.due("blank", x.blank('s', 100, 50, 100), 0);
        Check.due("cut", x.cut(0, 'm', 1), 26);
        Check.due("set", x.set(0, 3), 0);
        Check.due("kerf", x.kerf(0), 56);
        Check.due("gullets", x.gullets(0), 182);
        Check.due("recutsLeft", x.recutsLeft(0, 'm'), 5);
        Check.due("grind", x.grind(0), 44);
        Check.due("recuts", x.recuts(0), 1);
    }

    private static void fileForAnOrder() {
        Teethrow x = new Teethrow();
        Check.due("blank", x.blank('f', 50, 90, 120), 0);
        Check.due("cut", x.cut(0, 's', 1), 11);
        Check.due("harden", x.harden(0, 850, 'o'), 64);
        Check.due("bend", x.bend(0), 1);
        Check.due("order", x.order('f', 's', 1), 0);
        Check.due("isGood", x.isGood(0, 0), true);
        Check.due("send", x.send(0, 0), 1);
        Check.due("sent", x.sent(0), 1);
    }

    private static void exampleOfTheReadme() {
        Teethrow shop = new Teethrow();
        Check.due("blank", shop.blank('f', 50, 90, 120), 0);
        Check.due("cut", shop.cut(0, 's', 1), 11);
        Check.due("harden", shop.harden(0, 850, 'o'), 64);
        Check.due("order", shop.order('f', 's', 1), 0);
        Check.due("isGood", shop.isGood(0, 0), true);
        Check.due("send", shop.send(0, 0), 1);
        Check.due("blank saw", shop.blank('s', 100, 50, 100), 1);
        Check.due("cut saw", shop.cut(1, 'm', 1), 26);
        Check.due("set", shop.set(1, 3), 0);
        Check.due("harden saw", shop.harden(1, 850, 'w'), 58);
        Check.due("temper", shop.temper(1, 100), 54);
        Check.due("straighten", shop.straighten(1, 2), 2);
        Check.due("strokes", shop.strokes(1, 20, 1), 104);
        Check.due("brush", shop.brush(1), 104);
        Check.due("soften", shop.soften(1), 54);
        Check.due("grind", shop.grind(1), 44);
    }
}
