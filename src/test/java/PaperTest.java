/** Promises 4 and 6: what is a PAPER, and each FAULT at its place. */
public final class PaperTest {
    private static final Kit KIT = new Kit();
    private static final String TAIL = " by beat of egg much 1 long 1;";

    public static void main(String[] args) {
        good();
        tokens();
        order();
        twice();
        numbers();
        calls();
        KIT.finish("PaperTest");
    }

    private static void good() {
        KIT.isPaper("", 0);
        KIT.isPaper(" \n ", 0);
        KIT.isPaper("call a b;", 0);
        KIT.isPaper("make a" + TAIL, 1);
        KIT.isPaper("make\na\nby\nb\nof\nc\nmuch\n0\nlong\n999\n;\n", 1);
        KIT.isPaper("make abcdefgh by abcdefgh of a b c d much 0001 long 0999;", 1);
        KIT.isPaper("make a by a of egg much1 long2;", 1);
        StringBuilder twelve = new StringBuilder("call z y;call y x;call x w;call w v;call v u;call u t;");
        for (char c = 'a'; c < 'm'; c++) {
            twelve.append("make ").append(c).append(TAIL);
        }
        KIT.isPaper(twelve.toString(), 12);
        KIT.isNoPaper(twelve + "^make m" + TAIL, 2);
    }

    private static void tokens() {
        KIT.isNoPaper("^?", 1);
        KIT.isNoPaper("make a^?", 1);
        KIT.isNoPaper("make ^A", 1);
        KIT.isNoPaper("make a\t^".replace("\t^", "^\t"), 1);
        KIT.isNoPaper("make ^abcdefghi by b", 1);
        KIT.isNoPaper("make a by b of c much ^12345 long", 4);
        KIT.isNoPaper("make a by b of c much ^00001 long", 4);
        KIT.isNoPaper("make a by b of c much ^12a", 1);
        KIT.isNoPaper("make a by b of c much ^1long 1;", 1);
        KIT.isNoPaper("make a" + TAIL + "^\u0000", 1);
        KIT.isNoPaper("make a" + TAIL + " ^\u00ff", 1);
        KIT.isNoPaper("^Make", 1);
    }

    private static void order() {
        KIT.isNoPaper("make^", 2);
        KIT.isNoPaper("make  ^", 2);
        KIT.isNoPaper("make ^much", 2);
        KIT.isNoPaper("^;", 2);
        KIT.isNoPaper("^a", 2);
        KIT.isNoPaper("^7", 2);
        KIT.isNoPaper("^want 1;", 2);
        KIT.isNoPaper("make ^7", 2);
        KIT.isNoPaper("make a ^of", 2);
        KIT.isNoPaper("make a by ^call", 2);
        KIT.isNoPaper("make a by b ^;", 2);
        KIT.isNoPaper("make a by b of ^much 1 long 1;", 2);
        KIT.isNoPaper("make a by b of c ^long 1 much 1;", 2);
        KIT.isNoPaper("make a by b of c much ^long", 2);
        KIT.isNoPaper("make a by b of c much ^-1 long 1;", 2);
        KIT.isNoPaper("make a by b of c much ^(1) long 1;", 2);
        KIT.isNoPaper("make a by b of c much 1 ^;", 2);
        KIT.isNoPaper("make a by b of c much 1 long ^;", 2);
        KIT.isNoPaper("make a by b of c much 1 long 1^", 2);
        KIT.isNoPaper("make a by b of c much 1 long 1 ^2;", 2);
        KIT.isNoPaper("make a by b of c d e f ^g much 1 long 1;", 2);
        KIT.isNoPaper("make a by b of c d e f ^c much 1 long 1;", 2);
        KIT.isNoPaper("make a" + TAIL + "^call b c;", 2);
        KIT.isNoPaper("make a" + TAIL + "^;", 2);
        for (String sign : new String[] {"(", ")", "<", ">", "=", "+", "-", "*"}) {
            KIT.isNoPaper("make a by b of c ^" + sign, 2);
        }
        for (String word : "call make by of much long want steps path ends has and or not".split(" ")) {
            KIT.isNoPaper("make ^" + word, 2);
            KIT.isNoPaper("call a ^" + word, 2);
        }
        KIT.isNoPaper("call a ^;", 2);
        KIT.isNoPaper("call a b ^c", 2);
        KIT.isNoPaper("call a b^", 2);
    }

    private static void twice() {
        KIT.isNoPaper("call a b;call ^a c;", 3);
        KIT.isPaper("call a b;call b a;call c b;", 0);
        KIT.isNoPaper("make a" + TAIL + "make ^a" + TAIL, 3);
        KIT.isNoPaper("make a by b of c d ^c much 1 long 1;", 3);
        KIT.isNoPaper("make a by b of ^a", 6);
        KIT.isNoPaper("make a by b of c ^a ?", 6);
        KIT.isPaper("make a by b of b c much 1 long 1;make c by c of a much 1 long 1;", 2);
        KIT.isNoPaper("make a by b of c ^c ?", 3);
    }

    private static void numbers() {
        KIT.isNoPaper("make a by b of c much ^1000 long ?", 4);
        KIT.isNoPaper("make a by b of c much 999 long ^9999", 4);
        KIT.isNoPaper("make a by b of c much 999 long ^1000 ?", 4);
        KIT.isPaper("make a by b of c much 999 long 0;", 1);
    }

    private static void calls() {
        KIT.isNoPaper("call a b;call b c;call c d;call d e;call e f;call f g;^call g h;", 2);
        // what is MADE, its VERB and NEEDS, all as called
        KIT.isNoPaper("call x y;make x" + TAIL + "make ^y" + TAIL, 3);
        KIT.isNoPaper("call x y;make a by b of x ^y much 1 long 1;", 3);
        KIT.isNoPaper("call x y;make y by b of ^x much 1 long 1;", 6);
        CakePapers x = Kit.with(
                "call x egg;call v beat;call d dough;make d by v of x much 1 long 1;make e by v of dough much 1 long 1;",
                "make dough by beat of egg much 1 long 1;make e by beat of dough much 1 long 1;",
                "call a b;call b a;make a by mix of b much 1 long 1;",
                "make b by mix of a much 1 long 1;",
                "call beat egg; make beat by beat of milk much 1 long 1;",
                "make egg by egg of milk much 1 long 1;");
        KIT.due("called and plain are one", x.changes(0, 1), 0);
        KIT.due("and the same", x.same(0, 1), 1);
        KIT.due("made, as called", x.step(0, 1, 3), 1);
        KIT.due("once only", x.changes(2, 3), 0);
        KIT.due("once only, the same", x.same(2, 3), 1);
        KIT.due("verbs too", x.changes(4, 5), 0);
        KIT.due("a call of itself", Kit.paper(x, "call a a; make a by a of b much 1 long 1;"), 6);
    }
}
