/** Promises 5 and 6 of a WANT, and 7 what it comes to. */
public final class WantTest {
    private static final Kit KIT = new Kit();
    private static final String PAPER = Kit.steps("a beat egg 3 5", "b stir a flour 100 2", "c bake b 1 40", "d chop nuts 50 4");

    public static void main(String[] args) {
        values();
        units();
        depth();
        faults();
        stays();
        KIT.finish("WantTest");
    }

    private static void comesTo(String text, int units, int value) {
        CakePapers x = Kit.with(PAPER);
        KIT.due("none at first", x.makes(0, 5), 0);
        KIT.isWant(x, "want " + text + ";", units, value);
        KIT.due(text + " of none", x.makes(1, 5), -1);
    }

    private static void values() {
        comesTo("7", 1, 7);
        comesTo("9999", 1, 9999);
        comesTo("0007", 1, 7);
        comesTo("steps", 1, 4);
        comesTo("much", 1, 154);
        comesTo("long", 1, 51);
        comesTo("path", 1, 47);
        comesTo("ends", 1, 2);
        comesTo("has a", 1, 1);
        comesTo("has egg", 1, 0);
        comesTo("0 - 1", 2, -1);
        comesTo("1-2-3", 3, -4);
        comesTo("1-(2-3)", 4, 2);
        comesTo("2+3*4", 3, 14);
        comesTo("(2+3)*4", 4, 20);
        comesTo("1 < 2", 2, 1);
        comesTo("2 < 1", 2, 0);
        comesTo("1 + 1 > 1", 3, 1);
        comesTo("1 > 1", 2, 0);
        comesTo("3 = 1 + 2", 3, 1);
        comesTo("3 = 4", 2, 0);
        comesTo("(1 < 2) < 2", 4, 1);
        comesTo("not 0", 1, 1);
        comesTo("not 5", 1, 0);
        comesTo("not not 5", 1, 1);
        comesTo("not 1 = 2", 2, 1);
        comesTo("not 0 and 0", 2, 0);
        comesTo("5 and 7", 2, 1);
        comesTo("5 or 0", 2, 1);
        comesTo("0 or 0", 2, 0);
        comesTo("1 or 1 and 0", 3, 1);
        comesTo("(1 or 1) and 0", 4, 0);
        comesTo("(0-5) and 1", 4, 1);
        comesTo("(5)", 2, 5);
        comesTo("9999*9999*9999", 3, 9999 * 9999 * 9999);
        comesTo("0-9999*9999*50", 4, -(9999 * 9999 * 50));
    }

    private static void units() {
        comesTo("1" + "+1".repeat(39), 40, 40);
        KIT.isNoWant("want 1" + "+1".repeat(39) + "+^1;", 2);
        KIT.isNoWant("want 1" + "+1".repeat(39) + "+^has a;", 2);
        KIT.isNoWant("want 1" + "+1".repeat(39) + "+^(1);", 2);
        comesTo("1" + "+1".repeat(37) + "+(1)", 40, 39);
        KIT.isNoWant("want 1" + "+1".repeat(38) + "+(^1);", 2);
    }

    private static void depth() {
        comesTo("(".repeat(7) + "3" + ")".repeat(7), 8, 3);
        KIT.isNoWant("want " + "(".repeat(7) + "^(3" + ")".repeat(8) + ";", 2);
        comesTo("not ".repeat(7) + "3", 1, 0);
        KIT.isNoWant("want " + "not ".repeat(7) + "^not 3;", 2);
        comesTo("not (not (not (not 3 or 1)))", 5, 0);
        KIT.isNoWant("want not (not (not (not ^not 3)));", 2);
        KIT.isNoWant("want not (not (not (not ^(3))));", 2);
        comesTo("((((((1))))))+((((((1))))))", 14, 2);
        comesTo("not 0 and not 0 and not 0 and not 0 and not 0 and not 0 and not 0 and not 0", 8, 1);
    }

    private static void faults() {
        KIT.isNoWant("^", 2);
        KIT.isNoWant("   ^", 2);
        KIT.isNoWant("^steps;", 2);
        KIT.isNoWant("^make", 2);
        KIT.isNoWant("want ^;", 2);
        KIT.isNoWant("want^", 2);
        KIT.isNoWant("want 1^", 2);
        KIT.isNoWant("want 1 ^2;", 2);
        KIT.isNoWant("want 1;^;", 2);
        KIT.isNoWant("want 1; ^want 1;", 2);
        KIT.isNoWant("want 1;^!", 1);
        KIT.isNoWant("want ^a;", 2);
        KIT.isNoWant("want has ^steps;", 2);
        KIT.isNoWant("want has ^7;", 2);
        KIT.isNoWant("want has a ^b;", 2);
        KIT.isNoWant("want 1 + ^;", 2);
        KIT.isNoWant("want ^- 1;", 2);
        KIT.isNoWant("want 1 < 2 ^< 3;", 2);
        KIT.isNoWant("want 1 + ^not 2;", 2);
        KIT.isNoWant("want 1 < ^not 2;", 2);
        KIT.isNoWant("want 1 ^not 2;", 2);
        KIT.isNoWant("want (1^;", 2);
        KIT.isNoWant("want 1^);", 2);
        KIT.isNoWant("want (^);", 2);
        KIT.isNoWant("want ^call;", 2);
        KIT.isNoWant("want ^12345;", 4);
        KIT.isNoWant("want ^1a;", 1);
        KIT.isNoWant("want 1 ^& 2;", 1);
        KIT.isNoWant("want has ^abcdefghi;", 1);
        KIT.isNoWant("want 1 ^or;".replace("^or", "or ^"), 2);
    }

    private static void stays() {
        CakePapers x = Kit.with(PAPER);
        Kit.want(x, "want steps;");
        KIT.due("image", x.image(0), 1);
        Kit.want(x, "want ends + 10;");
        KIT.due("back", x.back(0), 1);
        KIT.due("the WANT stays", x.makes(0, 5), 12);
        x.tear(0);
        KIT.due("units stay", x.about(1), 2);
    }
}
