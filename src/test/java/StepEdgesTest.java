/** Each sentence of the document that names a boundary of what a PAPER makes, of ALIKE, of SAME, or of BEGUN. */
public final class StepEdgesTest {
    private static final Kit KIT = new Kit();
    private static final int[] NO_PAPERS = {-1, 8, Kit.LEAST_INT, Kit.MOST_INT};

    public static void main(String[] args) {
        madeOrRaw();
        endsAndPath();
        alikeSteps();
        alikeNeeds();
        sameEnds();
        makesCall();
        stepCall();
        sameCall();
        alikeCall();
        begunSteps();
        begunCall();
        KIT.finish("StepEdgesTest");
    }

    /** Twelve STEPS, each of which NEEDS the one ahead of it; or, turned, the one behind it. */
    private static String row(boolean turned) {
        String[] lines = new String[12];
        for (int i = 0; i < 12; i++) {
            char name = (char) ('a' + i);
            String line = name + " mix " + (i == 0 ? "egg" : Character.toString((char) (name - 1))) + " 999 999";
            lines[turned ? 11 - i : i] = line;
        }
        return Kit.steps(lines);
    }

    private static void madeOrRaw() {
        KIT.sentence("A NEED is MADE, if a STEP ahead MAKES it; else it is RAW.");
        CakePapers x = Kit.with(row(false), row(true),
                Kit.steps("a v e 1 1", "b v a e 1 1", "c v b a e f 1 1", "d v a b c e 1 1", "e v a b c d 1 1", "f v e x y z 1 1"));
        for (int step = 0; step < 12; step++) {
            KIT.due("directly ahead " + step, x.step(0, step, 3), step == 0 ? 0 : 1);
            KIT.due("directly behind " + step, x.step(1, step, 3), 0);
        }
        int[] made = {0, 1, 2, 3, 4, 1};
        for (int step = 0; step < 6; step++) {
            KIT.due("MADE of " + step, x.step(2, step, 3), made[step]);
        }
    }

    private static void endsAndPath() {
        KIT.sentence("ENDS: STEPS that no STEP NEEDS as MADE.");
        CakePapers x = Kit.with(row(false), row(true), "", Kit.steps("a v p 3 999"),
                Kit.steps("a v p 1 5", "b v a 1 0", "c v a 1 7", "d v b c 1 0", "e v p 1 12", "f v q 1 11"),
                Kit.steps("a v p 1 0", "b v a 1 0"));
        int[] ends = {1, 12, 0, 1, 3, 1};
        for (int p = 0; p < ends.length; p++) {
            KIT.due("ENDS of " + p, x.makes(p, 1), ends[p]);
        }
        for (int step = 0; step < 12; step++) {
            KIT.due("of a row " + step, x.step(0, step, 4), step == 11 ? 1 : 0);
            KIT.due("NEEDED, but RAW " + step, x.step(1, step, 4), 1);
        }
        KIT.sentence("PATH: the most long of STEPS one behind the other, each MADE for the next.");
        int[] path = {12 * 999, 999, 0, 999, 12, 0};
        for (int p = 0; p < path.length; p++) {
            KIT.due("PATH of " + p, x.makes(p, 2), path[p]);
        }
    }

    private static void alikeSteps() {
        KIT.sentence("Two STEPS (of any PAPERS) are ALIKE, if VERB, much, long are the same, and their NEEDS, in some order, "
                + "one by one");
        CakePapers x = Kit.with(
                Kit.steps("a v p q r s 1 1"),
                Kit.steps("z v s r q p 1 1"),
                Kit.steps("a w p q r s 1 1", "b v p q r s 0 1", "c v p q r s 1 2", "d v p q r 1 1", "e v p q r t 1 1"),
                Kit.steps("a v p q r s 1 1", "b v p q r s 1 1"));
        KIT.due("whatever it MAKES, its NEEDS turned", x.alike(0, 0, 1), 0);
        KIT.due("one field is other", x.alike(0, 0, 2), -1);
        for (int step = 0; step < 5; step++) {
            KIT.due("turned about " + step, x.alike(2, step, 0), -1);
        }
        KIT.due("of one PAPER", x.alike(3, 1, 3), 0);
    }

    private static void alikeNeeds() {
        KIT.sentence("both RAW of one NAME, or both MADE by STEPS that are ALIKE.");
        CakePapers x = Kit.with(
                // c of two that are ALIKE, d of two that are not, e of one that is MADE and one RAW
                Kit.steps("a v p 1 1", "b v p 1 1", "g v q 1 1", "c m a b 1 1", "d m a g 1 1", "e m a p 1 1"),
                Kit.steps("s v p 1 1", "t v q 1 1", "u m t s 1 1", "w m p s 1 1"),
                // a is RAW here
                Kit.steps("c m a b 1 1", "e m a p 1 1"),
                Kit.steps("s v p 1 1", "t v p 1 1", "c m t s 1 1"),
                row(false), row(false).replace("egg", "milk"));
        int[] due = {0, 0, 1, -1, 2, 3};
        for (int step = 0; step < due.length; step++) {
            KIT.due("alike(0, " + step + ", 1)", x.alike(0, step, 1), due[step]);
        }
        KIT.due("MADE and RAW of one NAME", x.alike(0, 3, 2), -1);
        KIT.due("RAW and MADE of one NAME", x.alike(2, 0, 0), -1);
        KIT.due("one MADE, one RAW: and RAW", x.alike(0, 5, 2), -1);
        KIT.due("two that are ALIKE", x.alike(0, 3, 3), 2);
        KIT.due("twelve deep", x.alike(4, 11, 4), 11);
        KIT.due("twelve deep, and the first other", x.alike(4, 11, 5), -1);
    }

    private static void sameEnds() {
        KIT.sentence("Two PAPERS make the SAME, if their ENDS are, in some order, one by one, ALIKE.");
        CakePapers x = Kit.with(
                "",
                Kit.steps("a v p 1 1"),
                Kit.steps("a v p 1 1", "b v p 1 1", "c v q 1 1"),
                Kit.steps("x v q 1 1", "y v p 1 1", "z v q 1 1"),
                Kit.steps("x v q 1 1", "y v p 1 1", "z v p 1 1"),
                Kit.steps("a v p 1 1", "b v p 1 1"),
                // what is behind an END counts, what MAKES it does not
                Kit.steps("a v p 1 1", "c m a 1 1", "d m a 1 1"),
                Kit.steps("a v p 1 1", "b v p 1 1", "c m a 1 1", "d m b 1 1"));
        int[][] alike = {{0}, {1}, {2, 4}, {3}, {5}, {6, 7}};
        boolean[][] due = new boolean[8][8];
        for (int[] kind : alike) {
            for (int i : kind) {
                for (int j : kind) {
                    due[i][j] = true;
                }
            }
        }
        for (int i = 0; i < 8; i++) {
            for (int j = 0; j < 8; j++) {
                KIT.due("same(" + i + ", " + j + ")", x.same(i, j), due[i][j] ? 1 : 0);
            }
        }
        CakePapers y = Kit.with(Kit.many('a', 12, "v egg 1 1"), Kit.many('m', 12, "v egg 1 1"),
                Kit.many('a', 11, "v egg 1 1") + Kit.steps("l v egg 1 2"), Kit.steps("l v egg 1 2") + Kit.many('a', 11, "v egg 1 1"));
        KIT.due("twelve ENDS", y.same(0, 1), 1);
        KIT.due("twelve ENDS, the last another", y.same(0, 2), 0);
        KIT.due("turned", y.same(2, 0), 0);
        KIT.due("the last is the first", y.same(2, 3), 1);
    }

    private static void makesCall() {
        KIT.sentence("Of a PAPER what 0: STEPS, 1: ENDS, 2: PATH, 3: all much, 4: all long, 5: what WANT comes to; "
                + "NONE if there is none such, or for another what");
        CakePapers x = Kit.with("", row(false));
        Kit.want(x, "want steps * 7;");
        int[][] due = {{0, 0, 0, 0, 0, 0}, {12, 1, 11988, 11988, 11988, 84}};
        for (int what = 0; what < 6; what++) {
            KIT.due("of no STEPS " + what, x.makes(0, what), due[0][what]);
            KIT.due("of twelve " + what, x.makes(1, what), due[1][what]);
            for (int none : NO_PAPERS) {
                KIT.due("of none " + none, x.makes(none, what), -1);
            }
            KIT.due("one beyond", x.makes(2, what), -1);
        }
        for (int what : new int[] {-1, 6, Kit.LEAST_INT, Kit.MOST_INT}) {
            KIT.due("another what " + what, x.makes(1, what), -1);
        }
    }

    private static void stepCall() {
        KIT.sentence("Of a STEP what 0: much, 1: long, 2: NEEDS, 3: how many of them are MADE, 4: 1 if it is an END, else 0; "
                + "NONE if there is none such, or for another what.");
        CakePapers x = Kit.with("", row(false));
        int[] due = {999, 999, 1, 1, 1};
        for (int what = 0; what < 5; what++) {
            KIT.due("the last " + what, x.step(1, 11, what), due[what]);
            for (int none : new int[] {-1, 12, 13, 36, Kit.LEAST_INT, Kit.MOST_INT}) {
                KIT.due("no STEP " + none, x.step(1, none, what), -1);
            }
            for (int none : NO_PAPERS) {
                KIT.due("no PAPER " + none, x.step(none, 0, what), -1);
            }
            KIT.due("no PAPER 2", x.step(2, 0, what), -1);
            KIT.due("of no STEPS", x.step(0, 0, what), -1);
        }
        for (int what : new int[] {-1, 5, Kit.LEAST_INT, Kit.MOST_INT}) {
            KIT.due("another what " + what, x.step(1, 0, what), -1);
        }
    }

    private static void sameCall() {
        KIT.sentence("1 if two PAPERS make the SAME, else 0; NONE if one is none.");
        CakePapers x = Kit.with("", "call a b;", row(false));
        KIT.due("both of nothing", x.same(0, 1), 1);
        KIT.due("itself", x.same(2, 2), 1);
        KIT.due("not", x.same(0, 2), 0);
        for (int none : NO_PAPERS) {
            KIT.due("first " + none, x.same(none, 0), -1);
            KIT.due("second " + none, x.same(0, none), -1);
            KIT.due("both " + none, x.same(none, none), -1);
        }
        KIT.due("one beyond", x.same(0, 3), -1);
    }

    private static void alikeCall() {
        KIT.sentence("The first STEP of the second PAPER that is ALIKE to a STEP of the first; "
                + "NONE if there is none, or one can't be.");
        CakePapers x = Kit.with("", Kit.many('a', 12, "beat egg 1 1"), Kit.steps("a beat milk 1 1", "b beat egg 1 1", "c beat egg 1 1"));
        for (int step = 0; step < 12; step++) {
            KIT.due("the first", x.alike(1, step, 1), 0);
            KIT.due("the first of another one", x.alike(1, step, 2), 1);
            KIT.due("of nothing", x.alike(1, step, 0), -1);
        }
        KIT.due("none", x.alike(2, 0, 1), -1);
        for (int none : new int[] {-1, 12, 13, Kit.LEAST_INT, Kit.MOST_INT}) {
            KIT.due("no STEP " + none, x.alike(1, none, 1), -1);
        }
        KIT.due("no STEP of none", x.alike(0, 0, 1), -1);
        for (int none : NO_PAPERS) {
            KIT.due("no first " + none, x.alike(none, 0, 1), -1);
            KIT.due("no second " + none, x.alike(1, 0, none), -1);
        }
        KIT.due("one beyond", x.alike(1, 0, 3), -1);
    }

    private static void begunSteps() {
        KIT.sentence("BEGUN: the first n STEPS of a PAPER are done: of another one STEPS that are ALIKE to one of these are done, too; "
                + "TO DO: the others; WASTED: those of the n ALIKE to none of the other one.");
        CakePapers x = Kit.with(
                Kit.steps("a v p 1 1", "b v q 1 1", "c m a b 1 1", "d v r 1 1"),
                // two that are ALIKE to the first, and one to the third
                Kit.steps("x v p 1 1", "y v p 1 1", "z v q 1 1", "w m x z 1 1", "u m x y 1 1"));
        int[][] due = {{5, 0}, {3, 0}, {2, 0}, {1, 0}, {1, 1}};
        int[][] turned = {{4, 0}, {3, 0}, {3, 0}, {2, 0}, {1, 0}, {1, 1}};
        begun(x, 0, 1, due);
        begun(x, 1, 0, turned);
        CakePapers y = Kit.with("", row(false));
        begun(y, 0, 1, new int[][] {{12, 0}});
        for (int n = 0; n <= 12; n++) {
            KIT.due("of itself", y.begun(1, n, 1, 0), 12 - n);
            KIT.due("none is wasted", y.begun(1, n, 1, 1), 0);
            KIT.due("nothing to do", y.begun(1, n, 0, 0), 0);
            KIT.due("all are wasted", y.begun(1, n, 0, 1), n);
        }
    }

    private static void begun(CakePapers x, int old, int paper, int[][] due) {
        for (int n = 0; n < due.length; n++) {
            KIT.due("TO DO by " + n, x.begun(old, n, paper, 0), due[n][0]);
            KIT.due("WASTED by " + n, x.begun(old, n, paper, 1), due[n][1]);
        }
        for (int what = 0; what < 2; what++) {
            KIT.due("n beyond", x.begun(old, due.length, paper, what), -1);
        }
    }

    private static void begunCall() {
        KIT.sentence("NONE if one can't be (n beyond the STEPS), or for another what.");
        CakePapers x = Kit.with("", row(false));
        for (int what = 0; what < 2; what++) {
            for (int n : new int[] {-1, 13, 14, Kit.LEAST_INT, Kit.MOST_INT}) {
                KIT.due("n " + n, x.begun(1, n, 1, what), -1);
            }
            KIT.due("n beyond none", x.begun(0, 1, 1, what), -1);
            for (int none : NO_PAPERS) {
                KIT.due("no old " + none, x.begun(none, 0, 1, what), -1);
                KIT.due("no PAPER " + none, x.begun(1, 0, none, what), -1);
            }
            KIT.due("one beyond", x.begun(1, 0, 2, what), -1);
        }
        for (int what : new int[] {-1, 2, Kit.LEAST_INT, Kit.MOST_INT}) {
            KIT.due("another what " + what, x.begun(1, 1, 1, what), -1);
        }
    }
}
