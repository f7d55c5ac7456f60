/** Promises 7 to 10: what a PAPER makes, its STEPS, SAME and ALIKE. */
public final class StepsTest {
    private static final Kit KIT = new Kit();

    public static void main(String[] args) {
        makes();
        steps();
        same();
        alike();
        KIT.finish("StepsTest");
    }

    private static void makes() {
        CakePapers x = Kit.with(
                Kit.steps("a beat egg 3 5", "b stir a flour 100 2", "c chop nuts 7 90", "d bake b c 1 40", "e ice sugar 999 131"),
                "",
                // what is MADE behind only is RAW
                Kit.steps("a mix b 1 10", "b mix egg 2 20"),
                // the longest row is not the one of most STEPS
                Kit.steps("a mix egg 1 1", "b mix a 1 1", "c mix b 1 1", "d mix egg 1 5", "e mix c d 1 1"));
        int[][] due = {{5, 2, 131, 1110, 268, 0}, {0, 0, 0, 0, 0, 0}, {2, 2, 20, 3, 30, 0}, {5, 1, 6, 5, 9, 0}};
        for (int p = 0; p < due.length; p++) {
            for (int what = 0; what < 6; what++) {
                KIT.due("makes(" + p + ", " + what + ")", x.makes(p, what), due[p][what]);
            }
            KIT.due("makes another", x.makes(p, 6), -1);
            KIT.due("makes below", x.makes(p, -1), -1);
        }
        for (int what = -1; what < 7; what++) {
            KIT.due("makes of none", x.makes(4, what), -1);
            KIT.due("makes of below", x.makes(-1, what), -1);
        }
    }

    private static void steps() {
        CakePapers x = Kit.with(Kit.steps("a beat egg 3 5", "b stir a flour c 100 2", "c bake b a 1 40", "d ice q r s t 0 999"));
        int[][] due = {{3, 5, 1, 0, 0}, {100, 2, 3, 1, 0}, {1, 40, 2, 2, 1}, {0, 999, 4, 0, 1}};
        for (int s = 0; s < due.length; s++) {
            for (int what = 0; what < 5; what++) {
                KIT.due("step(0, " + s + ", " + what + ")", x.step(0, s, what), due[s][what]);
            }
            KIT.due("step another", x.step(0, s, 5), -1);
            KIT.due("step below", x.step(0, s, -1), -1);
        }
        KIT.due("step 4", x.step(0, 4, 0), -1);
        KIT.due("step -1", x.step(0, -1, 0), -1);
        KIT.due("step of none", x.step(1, 0, 0), -1);
        KIT.due("step of below", x.step(-1, 0, 0), -1);
    }

    private static void same() {
        CakePapers x = Kit.with(
                Kit.steps("a beat egg 1 1", "b beat flour 1 1", "c mix a b 1 1"),
                Kit.steps("x beat flour 1 1", "y beat egg 1 1", "z mix x y 1 1"),
                Kit.steps("a beat egg 1 1", "b beat flour 1 1", "c mix a b 1 1", "d mix a b 1 1"),
                Kit.steps("a beat egg 1 1", "b beat flour 1 1", "c mix b 1 1"),
                "",
                // two that are ALIKE, and one thrice
                Kit.steps("a beat egg 1 1", "b beat egg 1 1", "c mix a b 1 1"),
                Kit.steps("a beat egg 1 1", "b beat flour 1 1", "c mix a flour 1 1", "d mix b c 1 1"),
                // RAW of the NAME that another one MAKES
                Kit.steps("c mix a b 1 1"));
        int[][] due = {
            {1, 1, 0, 0, 0, 0, 0, 0}, {1, 1, 0, 0, 0, 0, 0, 0}, {0, 0, 1, 0, 0, 0, 0, 0}, {0, 0, 0, 1, 0, 0, 0, 0},
            {0, 0, 0, 0, 1, 0, 0, 0}, {0, 0, 0, 0, 0, 1, 0, 0}, {0, 0, 0, 0, 0, 0, 1, 0}, {0, 0, 0, 0, 0, 0, 0, 1}};
        for (int i = 0; i < 8; i++) {
            for (int j = 0; j < 8; j++) {
                KIT.due("same(" + i + ", " + j + ")", x.same(i, j), due[i][j]);
            }
            KIT.due("same as none", x.same(i, 8), -1);
            KIT.due("same of below", x.same(-1, i), -1);
        }
    }

    private static void alike() {
        CakePapers x = Kit.with(
                Kit.steps("a beat egg 1 1", "b beat egg 1 1", "c mix a b 1 1", "d mix a egg 1 1"),
                Kit.steps("p beat milk 1 1", "q beat egg 1 1", "r beat egg 1 1", "s mix egg q 1 1", "t mix r q 1 1"),
                Kit.steps("a beats egg 1 1", "b beat egg 2 1", "c beat egg 1 2", "d beat eggs 1 1", "e beat egg x 1 1"));
        int[] due = {1, 1, 4, 3};
        for (int s = 0; s < 4; s++) {
            KIT.due("alike(0, " + s + ", 1)", x.alike(0, s, 1), due[s]);
            KIT.due("alike(0, " + s + ", 2)", x.alike(0, s, 2), -1);
            KIT.due("alike of none", x.alike(3, s, 0), -1);
            KIT.due("alike to none", x.alike(0, s, 3), -1);
        }
        KIT.due("first of its own", x.alike(0, 1, 0), 0);
        KIT.due("alike 4", x.alike(0, 4, 1), -1);
        KIT.due("alike -1", x.alike(0, -1, 1), -1);
    }
}
