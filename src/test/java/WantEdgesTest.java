/** Each sentence of the document that names a boundary of a WANT, its FAULTS, and what it comes to. */
public final class WantEdgesTest {
    private static final Kit KIT = new Kit();

    public static void main(String[] args) {
        noneAtFirst();
        textLength();
        wantAndTape();
        rules();
        wrapping();
        truth();
        ofAPaper();
        fortyUnits();
        withinSix();
        faults();
        KIT.finish("WantEdgesTest");
    }

    private static CakePapers five() {
        return Kit.with(Kit.steps("a beat egg 3 5", "b stir a flour 100 2", "c bake b 1 40", "d chop nuts 50 4", "e ice c 9 9"));
    }

    private static void comesTo(String e, int units, int value) {
        KIT.isWant(five(), "want " + e + ";", units, value);
    }

    private static void noneAtFirst() {
        KIT.sentence("(none at first: 0)");
        CakePapers x = five();
        KIT.due("what it comes to", x.makes(0, 5), 0);
        KIT.due("its units", x.about(1), 0);
        KIT.due("of a PAPER that is none", x.makes(1, 5), -1);
        x.join(0, 0, 0);
        KIT.due("BEST", x.best(-1), 0);
    }

    private static void textLength() {
        KIT.sentence("A WANT is a text of at most 400 bytes");
        CakePapers x = five();
        KIT.isWant(x, "want 7;" + " ".repeat(393), 1, 7);
        KIT.isWant(x, " ".repeat(393) + "want 8;", 1, 8);
        KIT.sentence("-2, and the TAPE stays: more than 400 bytes.");
        for (int length : new int[] {401, 420, 1200}) {
            KIT.due(length + " bytes", Kit.want(x, "want 9;" + " ".repeat(length - 7)), -2);
            KIT.due("the TAPE stays", x.about(4), length);
            KIT.due("the WANT, too", x.makes(0, 5), 8);
            KIT.due("no FAULT", x.fault(0), 0);
        }
        KIT.due("a wrong one that is too long", Kit.want(x, "?".repeat(401)), -2);
        x.end(400);
        KIT.due("400 of it", x.want(), -1);
        x.end(0);
        Kit.tell(x, "want 9;" + " ".repeat(394));
        x.end(400);
        KIT.due("400 of 401", x.want(), 1);
        KIT.due("comes to", x.makes(0, 5), 9);
        KIT.sentence("FAULTS, the first by its place (bytes from 0; the end: the text's length)");
        KIT.isNoWant("want 1" + " ".repeat(394) + "^", 2);
        KIT.isNoWant("want 1;" + " ".repeat(392) + "^;", 2);
    }

    private static void wantAndTape() {
        KIT.sentence("The TAPE (empty then) is the WANT: its units");
        CakePapers x = five();
        KIT.due("one unit", Kit.want(x, "want 5;"), 1);
        KIT.due("empty then", x.about(4), 0);
        KIT.due("three units", Kit.want(x, "want 5+5+5;"), 3);
        KIT.due("in place of that before", x.about(1), 3);
        KIT.due("fewer", Kit.want(x, "want 6;"), 1);
        KIT.due("nothing of that before is left", x.makes(0, 5), 6);
        // a not, a sign or a unit where the shorter one ends, in either of two WANTS before
        for (String longer : new String[] {"want not 5;", "want 5 + 5;", "want 5 < (6);", "want not not 5;"}) {
            for (int before = 1; before <= 3; before++) {
                for (int i = 0; i < before; i++) {
                    Kit.want(x, longer);
                }
                Kit.want(x, "want 7;");
                KIT.due("nothing of " + longer, x.makes(0, 5), 7);
            }
            Kit.want(x, longer);
            Kit.want(x, "want 9;");
            Kit.want(x, "want 7;");
            KIT.due("nothing of the last but one: " + longer, x.makes(0, 5), 7);
        }
        Kit.want(x, "want 6;");
        KIT.sentence("NONE: a FAULT (it stays as it was)");
        for (String wrong : new String[] {"", "want", "want 1+2+3", "want 9 9;", "want 12345;"}) {
            KIT.due("a FAULT: " + wrong, Kit.want(x, wrong), -1);
            KIT.due("its units stay", x.about(1), 1);
            KIT.due("what it comes to stays", x.makes(0, 5), 6);
            KIT.due("the TAPE stays", x.about(4), wrong.length());
        }
    }

    private static void rules() {
        KIT.sentence("want e ;");
        comesTo("1", 1, 1);
        KIT.isNoWant("^", 2);
        KIT.isNoWant("^1;", 2);
        KIT.isNoWant("want ^;", 2);
        KIT.isNoWant("want 1^", 2);
        KIT.sentence("e = both {or both}.");
        comesTo("0 or 0 or 0 or 4", 4, 1);
        KIT.isNoWant("want 1 or ^;", 2);
        KIT.isNoWant("want ^or 1;", 2);
        KIT.sentence("both = one {and one}.");
        comesTo("1 and 2 and 3 and 0", 4, 0);
        comesTo("0 and 0 or 1", 3, 1);
        comesTo("1 or 0 and 0", 3, 1);
        KIT.isNoWant("want 1 and ^;", 2);
        KIT.sentence("one = not one | sum [(< | > | =) sum].");
        comesTo("not 1 < 0", 2, 1);
        comesTo("not not not 0", 1, 1);
        comesTo("not 0 and 0", 2, 0);
        KIT.isNoWant("want 1 < 2 ^< 3;", 2);
        KIT.isNoWant("want 1 = 1 ^> 0;", 2);
        KIT.isNoWant("want 1 + ^not 1;", 2);
        KIT.isNoWant("want 1 = ^not 1;", 2);
        KIT.isNoWant("want not ^;", 2);
        KIT.sentence("sum = term {(+ | -) term}.");
        comesTo("9 - 4 - 3", 3, 2);
        comesTo("9 - 4 + 3", 3, 8);
        KIT.isNoWant("want ^-1;", 2);
        KIT.isNoWant("want 1 - ^- 1;", 2);
        KIT.sentence("term = unit {* unit}.");
        comesTo("2 * 3 * 4 - 2 * 5", 5, 14);
        KIT.isNoWant("want 1 * ^;", 2);
        KIT.isNoWant("want 2 * ^-1;", 2);
        KIT.sentence("unit = N | steps | much | long | path | ends | has NAME | ( e )");
        comesTo("(1 or 0) + (2 < 3) * (not 0)", 8, 2);
        KIT.isNoWant("want ^egg;", 2);
        KIT.isNoWant("want has^", 2);
        KIT.isNoWant("want (1^", 2);
        KIT.isNoWant("want (1 ^;", 2);
        KIT.isNoWant("want (^);", 2);
        KIT.isNoWant("want 1 ^);", 2);
        KIT.isNoWant("want 2 ^(3);", 2);
    }

    private static void wrapping() {
        KIT.sentence("(ints, wrapping;");
        // 8192 * 8192 * 32 is two to the 31st
        comesTo("8192*8192*32", 3, Kit.LEAST_INT);
        comesTo("8192*8192*32-1", 4, Kit.MOST_INT);
        comesTo("8192*8192*32+8192*8192*32", 6, 0);
        comesTo("0-8192*8192*32", 4, Kit.LEAST_INT);
        comesTo("8192*8192*64", 3, 0);
        comesTo("8192*8192*32 < 0", 4, 1);
        comesTo("8192*8192*32-1 > 8192*8192*32", 7, 1);
        comesTo("9999*9999*9999*9999", 4, 9999 * 9999 * 9999 * 9999);
        comesTo("0-9999*9999*9999", 4, -(9999 * 9999 * 9999));
        // the difference of these two wraps, but which is the greater does not
        comesTo("8192*8192*31 > 0-8192*8192*31", 7, 1);
        comesTo("0-8192*8192*31 < 8192*8192*31", 7, 1);
        comesTo("0000+9999", 2, 9999);
    }

    private static void truth() {
        KIT.sentence("relations, and, or, not are 1 or 0, of what is not 0).");
        comesTo("3 < 3", 2, 0);
        comesTo("2 < 3", 2, 1);
        comesTo("3 > 3", 2, 0);
        comesTo("3 > 2", 2, 1);
        comesTo("3 = 3", 2, 1);
        comesTo("3 = 2", 2, 0);
        comesTo("7 and 8", 2, 1);
        comesTo("8 and 4", 2, 1);
        comesTo("0 and 8", 2, 0);
        comesTo("8 and 0", 2, 0);
        comesTo("7 or 8", 2, 1);
        comesTo("0 or 8", 2, 1);
        comesTo("8 or 0", 2, 1);
        comesTo("0 or 0", 2, 0);
        comesTo("not 0", 1, 1);
        comesTo("not 2", 1, 0);
        comesTo("0-2 and 0-2", 4, 1);
        comesTo("0-2 or 0", 3, 1);
        comesTo("not (0-1)", 3, 0);
        comesTo("8192*8192*32 and 1", 4, 1);
        comesTo("8192*8192*64 or 0", 4, 0);
    }

    private static void ofAPaper() {
        KIT.sentence("STEPS, all much, all long, PATH, ENDS of a PAPER, 1 if a STEP MAKES that, else 0");
        CakePapers x = Kit.with("", Kit.many('a', 12, "beat egg 999 999"), Kit.steps("a v b 5 7", "b v a 1 1"));
        String[] units = {"steps", "much", "long", "path", "ends", "has a", "has l", "has m", "has egg", "has beat"};
        int[][] due = {{0, 0, 0, 0, 0, 0, 0, 0, 0, 0}, {12, 11988, 11988, 999, 12, 1, 1, 0, 0, 0}, {2, 6, 8, 8, 1, 1, 0, 0, 0, 0}};
        for (int u = 0; u < units.length; u++) {
            KIT.due(units[u], Kit.want(x, "want " + units[u] + ";"), 1);
            for (int p = 0; p < 3; p++) {
                KIT.due(units[u] + " of " + p, x.makes(p, 5), due[p][u]);
            }
        }
        KIT.sentence("(5 may be that, too).");
        Kit.want(x, "want 0-1;");
        KIT.due("a WANT that comes to NONE", x.makes(0, 5), -1);
        KIT.due("of a PAPER that is none", x.makes(3, 5), -1);
    }

    private static void fortyUnits() {
        KIT.sentence("40 units");
        comesTo("1" + "+1".repeat(38), 39, 39);
        comesTo("1" + "+1".repeat(39), 40, 40);
        comesTo("0" + " or 0".repeat(38) + " or 5", 40, 1);
        comesTo("(1)" + "+(1)".repeat(19), 40, 20);
        comesTo("(".repeat(7) + "1" + "+1".repeat(32) + ")".repeat(7), 40, 33);
        comesTo("has a" + "+has a".repeat(39), 40, 40);
        KIT.sentence("FAULTS 1, 2 (a 41st unit, what is within 7 others: at its first TOKEN, or the not; what is behind the ;), 4.");
        KIT.isNoWant("want 1" + "+1".repeat(39) + "+^1;", 2);
        KIT.isNoWant("want 1" + "+1".repeat(39) + " + ^steps;", 2);
        KIT.isNoWant("want 1" + "+1".repeat(39) + "+^has a;", 2);
        KIT.isNoWant("want 1" + "+1".repeat(39) + "+^(1);", 2);
        KIT.isNoWant("want 1" + "+1".repeat(39) + "+^(?", 2);
        KIT.isNoWant("want 1" + "+1".repeat(38) + "+(^1);", 2);
        KIT.isNoWant("want 1" + "+1".repeat(39) + " or not not ^1;", 2);
        KIT.isNoWant("want 1" + "+1".repeat(39) + "=^1", 2);
    }

    private static void withinSix() {
        KIT.sentence("a unit ( e ), or a one behind not, within 6 others at most.");
        for (int nots = 0; nots <= 7; nots++) {
            int brackets = 7 - nots;
            String ahead = "not ".repeat(nots) + "(".repeat(brackets);
            String behind = ")".repeat(brackets);
            comesTo(ahead + "5" + behind, 1 + brackets, nots == 0 ? 5 : nots % 2 == 0 ? 1 : 0);
            KIT.isNoWant("want " + ahead + "^(5)" + behind + ";", 2);
            if (brackets > 0) {
                KIT.isNoWant("want " + ahead + "^not 5" + behind + ";", 2);
                KIT.isNoWant("want " + ahead + "5 and ^not 5" + behind + ";", 2);
                KIT.isNoWant("want " + ahead + "5 + ^(5)" + behind + ";", 2);
            }
        }
        KIT.isNoWant("want " + "not ".repeat(7) + "^not 5;", 2);
        // beside one another they are not within one another
        comesTo("(((((((1)))))))+(((((((2)))))))", 16, 3);
        comesTo("not not not not not not not 0 and not not not not not not not 0", 2, 1);
    }

    private static void faults() {
        KIT.sentence("FAULTS 1, 2 (a 41st unit, what is within 7 others: at its first TOKEN, or the not; what is behind the ;), 4.");
        KIT.isNoWant("want ^?;", 1);
        KIT.isNoWant("want 1 ^& 1;", 1);
        KIT.isNoWant("want has ^abcdefghi;", 1);
        KIT.isNoWant("want 1;^1", 2);
        KIT.isNoWant("want 1;^;", 2);
        KIT.isNoWant("want 1; \n^want 1;", 2);
        KIT.isNoWant("want 1;^?", 1);
        comesTo("9999", 1, 9999);
        comesTo("0009", 1, 9);
        KIT.isNoWant("want ^10000;", 4);
        KIT.isNoWant("want ^00009;", 4);
        KIT.isNoWant("want 1 + ^99999 ?", 4);
        KIT.isNoWant("want (1 < ^4294967297);", 4);
    }
}
