/** Promises 11 to 14: CHANGES, SLIPS, LEAST, CHANGES done. */
public final class ChangesTest {
    private static final Kit KIT = new Kit();

    public static void main(String[] args) {
        changes();
        slips();
        least();
        does();
        doesBreach();
        bits();
        KIT.finish("ChangesTest");
    }

    private static void changes() {
        CakePapers x = Kit.with(
                Kit.steps("a beat egg 3 5", "b stir a flour 100 2", "c bake b 1 40", "d ice sugar 1 1"),
                Kit.steps("e chop nuts 1 1", "c fry b e 2 41", "b stir flour a 100 2", "f chop figs 1 1", "a beat egg 4 5"));
        int[][] due = {{2, 0}, {1, 2}, {2, 2}, {3, 2}, {4, 2}, {0, 3}, {5, 0}, {5, 3}};
        KIT.due("changes", x.changes(0, 1), due.length);
        for (int i = 0; i < due.length; i++) {
            KIT.due("kind " + i, x.change(0, 1, i, 0), due[i][0]);
            KIT.due("step " + i, x.change(0, 1, i, 1), due[i][1]);
            KIT.due("another what", x.change(0, 1, i, 3), -1);
            KIT.due("what below", x.change(0, 1, i, -1), -1);
        }
        KIT.due("beyond", x.change(0, 1, 8, 0), -1);
        KIT.due("below", x.change(0, 1, -1, 0), -1);
        KIT.due("back", x.changes(1, 0), 8);
        KIT.due("none", x.changes(0, 0), 0);
        KIT.due("of none", x.changes(2, 0), -1);
        KIT.due("to none", x.changes(0, 2), -1);
        KIT.due("change of none", x.change(0, -1, 0, 0), -1);
    }

    private static void slip(String a, String b, int due) {
        CakePapers x = Kit.with("make a by " + a + " long 1;", "make a by " + b + " long 1;");
        KIT.due(a + " to " + b, x.changes(0, 1), 1);
        KIT.due(a + " to " + b + " slip", x.change(0, 1, 0, 2), due);
        KIT.due(b + " to " + a + " slip", x.change(1, 0, 0, 2), due);
    }

    private static void slips() {
        int[][] numbers = {{10, 100, 1}, {0, 7, 1}, {0, 10, 1}, {1, 10, 1}, {12, 21, 1}, {12, 34, 0}, {123, 132, 1},
            {123, 321, 0}, {123, 213, 1}, {123, 12, 1}, {123, 23, 1}, {123, 13, 1}, {123, 3, 0}, {100, 1, 0}, {99, 999, 1},
            {123, 231, 0}, {10, 1, 1}, {40, 60, 1}, {5, 17, 0}, {7, 17, 1}, {120, 102, 1}, {100, 10, 1}, {0, 100, 0}};
        for (int[] n : numbers) {
            slip("b of c much " + n[0], "b of c much " + n[1], n[2]);
        }
        String[][] verbs = {{"beat", "beats", "1"}, {"beat", "bat", "1"}, {"beat", "boat", "1"}, {"beat", "baet", "1"},
            {"beat", "bake", "0"}, {"beat", "taeb", "0"}, {"a", "b", "1"}, {"ab", "ba", "1"}, {"abc", "bca", "0"},
            {"abcdefgh", "abcdefg", "1"}, {"abcdefgh", "bcdefgh", "1"}, {"abcdefgh", "abcdefhg", "1"}, {"aab", "aba", "1"},
            {"abcdefgh", "badcefgh", "0"}, {"abcdefgh", "abcdef", "0"}};
        for (String[] v : verbs) {
            slip(v[0] + " of c much 1", v[1] + " of c much 1", Integer.parseInt(v[2]));
        }
        slip("b of c much 1", "b of d much 1", 0);
        CakePapers x = Kit.with(Kit.steps("a b c 1 10", "d e f 1 1"), Kit.steps("a b c 1 11", "g e f 1 1"));
        KIT.due("long", x.change(0, 1, 0, 2), 1);
        KIT.due("out is no slip", x.change(0, 1, 1, 2), 0);
        KIT.due("put is no slip", x.change(0, 1, 2, 2), 0);
    }

    private static void least() {
        StringBuilder eight = new StringBuilder();
        for (char c = 'a'; c < 'i'; c++) {
            eight.append(Kit.steps(c + " beat egg 1 1"));
        }
        CakePapers x = Kit.with(
                Kit.steps("a beat egg 1 1", "b stir a milk 2 2"),
                Kit.steps("x stir a milk 2 2", "a beat egg 1 1"),
                Kit.steps("a fry p q r s 9 9"),
                Kit.steps("a fry egg 9 9"),
                "",
                eight.toString(),
                eight + Kit.steps("z beat egg 1 1"));
        int[][] due = {{0, 1, 9, 7, 6}, {1, 0, 9, 7, 6}, {9, 9, 0, 5, 3}, {7, 7, 5, 0, 3}, {6, 6, 3, 3, 0}};
        for (int i = 0; i < 5; i++) {
            for (int j = 0; j < 5; j++) {
                KIT.due("least(" + i + ", " + j + ")", x.least(i, j), due[i][j]);
            }
        }
        KIT.due("eight", x.least(5, 5), 0);
        KIT.due("eight put", x.least(4, 5), 24);
        KIT.due("spent", x.least(5, 6), -2);
        KIT.due("spent first", x.least(6, 5), -2);
        KIT.due("none", x.least(6, 7), -1);
        KIT.due("none first", x.least(-1, 6), -1);
    }

    private static void does() {
        CakePapers x = Kit.with(
                Kit.steps("a beat egg 3 5", "b stir a flour 100 2", "c bake b 1 40"),
                Kit.steps("a beat egg 3 5", "b stir flour 10 2", "n chop nuts 1 1", "c bake b n 1 40", "o chop n 1 1"));
        // 0 much of b, 1 needs of b, 2 needs of c, 3 put n, 4 put o
        int[][] due = {{0, 3}, {1, 3}, {2, 3}, {4, -1}, {8, 4}, {12, 4}, {16, -1}, {24, 5}, {31, 5}, {27, 5}, {20, -1},
            {32, CakePapers.GAP}, {-1, CakePapers.GAP}, {Integer.MIN_VALUE, CakePapers.GAP}};
        KIT.due("changes", x.changes(0, 1), 5);
        for (int[] d : due) {
            KIT.due("does " + d[0], x.does(0, 1, d[0]), d[1]);
        }
        KIT.due("of none", x.does(0, 2, 0), CakePapers.GAP);
        KIT.due("of none first", x.does(-1, 0, 0), CakePapers.GAP);
        KIT.due("no change", x.does(0, 0, 0), 3);
        KIT.due("no such change", x.does(0, 0, 1), CakePapers.GAP);
    }

    private static void doesBreach() {
        StringBuilder twelve = new StringBuilder();
        for (char c = 'a'; c < 'm'; c++) {
            twelve.append(Kit.steps(c + " beat egg 1 1"));
        }
        CakePapers x = Kit.with(
                twelve.toString(),
                Kit.steps("z beat egg 1 1"),
                // each alone may stand, but they need each other when put in order
                Kit.steps("p mix q 1 1", "q mix p 1 1"),
                // b still NEEDS a, which was MADE and is not now
                Kit.steps("a beat egg 1 1", "b mix a 1 1"),
                Kit.steps("b mix a 1 1"),
                // RAW in the first, MADE in the second: no BREACH
                Kit.steps("b mix a 1 1", "a beat egg 1 1"));
        KIT.due("thirteen", x.does(0, 1, 1 << 12), -1);
        KIT.due("twelve", x.does(0, 1, 1 << 12 | 1), 12);
        KIT.due("one", x.does(0, 1, (1 << 13) - 1), 1);
        KIT.due("none", x.does(0, 1, (1 << 12) - 1), 0);
        KIT.due("a ring", x.does(2, 2, 0), -1);
        KIT.due("a ring left", x.does(2, 1, 1), -1);
        KIT.due("lost", x.does(3, 4, 1), -1);
        KIT.due("never had", x.does(4, 3, 1), 2);
        KIT.due("behind", x.does(5, 5, 0), 2);
        KIT.due("behind, gone", x.does(5, 4, 1), 1);
    }

    private static void bits() {
        StringBuilder a = new StringBuilder();
        StringBuilder b = new StringBuilder();
        for (char c = 'a'; c < 'm'; c++) {
            a.append(Kit.steps(c + " beat egg 1 1"));
            b.append(Kit.steps(c + " fry milk 2 2"));
        }
        CakePapers x = Kit.with(a.toString(), b.toString());
        KIT.due("all", x.changes(0, 1), 48);
        KIT.due("the last", x.change(0, 1, 47, 0), 4);
        KIT.due("its step", x.change(0, 1, 47, 1), 11);
        KIT.due("twenty", x.does(0, 1, (1 << 20) - 1), 12);
        KIT.due("the 21st", x.does(0, 1, 1 << 20), CakePapers.GAP);
        KIT.due("ruin", x.ruin(0, 1, 1, 0), 0);
        KIT.due("leans", x.leans(0, 1, 47), 0);
    }
}
