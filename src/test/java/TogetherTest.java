/** Promises 21 to 25: RUIN, LAWS, THREE by twos, LEANS, BEGUN. */
public final class TogetherTest {
    private static final Kit KIT = new Kit();

    public static void main(String[] args) {
        ruin();
        ruinByNumber();
        laws();
        lawsBroken();
        three();
        leans();
        leansOnNothingElse();
        begun();
        KIT.finish("TogetherTest");
    }

    private static void ruin() {
        CakePapers x = Kit.with(
                Kit.steps("a beat egg 1 1", "b beat egg 1 1", "c mix q 1 1"),
                Kit.steps("a beat egg 2 1", "b mix a 1 1", "c mix q 1 1", "d mix a 1 1"),
                Kit.steps("b beat egg 1 1", "c mix b 1 1"),
                Kit.steps("a mix b 1 1", "b beat egg 1 1", "c mix q 1 1"),
                // a mix b is of b, MADE ahead
                Kit.steps("b beat egg 1 1", "a mix b 1 1", "c mix q 1 1"));
        // of the one: 0 much of a, 1 VERB of b, 2 NEEDS of b, 3 put d; of the other: 0 out a, 1 NEEDS of c
        KIT.due("changes", x.changes(0, 1), 4);
        KIT.due("pairs", x.ruin(0, 1, 2, 0), 2);
        KIT.due("first", x.ruin(0, 1, 2, 1), 200);
        KIT.due("turned pairs", x.ruin(0, 2, 1, 0), 2);
        KIT.due("turned first", x.ruin(0, 2, 1, 1), 2);
        // b of a and a of b: a ring
        KIT.due("ring", x.ruin(0, 1, 4, 0), 1);
        KIT.due("ring first", x.ruin(0, 1, 4, 1), 201);
        KIT.due("a ring, RAW", x.ruin(0, 1, 3, 0), 1);
        KIT.due("no pairs", x.ruin(0, 2, 2, 0), 0);
        KIT.due("no first", x.ruin(0, 2, 2, 1), -1);
        KIT.due("no changes", x.ruin(0, 0, 1, 0), 0);
        KIT.due("another what", x.ruin(0, 1, 2, 2), -1);
        KIT.due("what below", x.ruin(0, 1, 2, -1), -1);
        KIT.due("none", x.ruin(0, 1, 5, 0), -1);
        KIT.due("none", x.ruin(-1, 1, 2, 0), -1);
        KIT.due("none", x.ruin(0, 5, 2, 0), -1);
    }

    private static void ruinByNumber() {
        StringBuilder eleven = new StringBuilder();
        for (char c = 'a'; c < 'l'; c++) {
            eleven.append(Kit.steps(c + " beat egg 1 1"));
        }
        CakePapers x = Kit.with(eleven.toString(), eleven + Kit.steps("y beat egg 1 1"), eleven + Kit.steps("z beat egg 1 1"),
                eleven + Kit.steps("y fry egg 1 1"));
        KIT.due("thirteen", x.ruin(0, 1, 2, 0), 1);
        KIT.due("the same put twice", x.ruin(0, 1, 3, 0), 0);
    }

    private static void laws() {
        CakePapers x = Kit.with(
                Kit.steps("a beat egg 1 1", "b beat egg 1 1"),
                Kit.steps("a beat egg 2 1", "b beat egg 1 1"),
                Kit.steps("a beat egg 1 1", "b beat egg 1 2"),
                Kit.steps("a beat egg 3 1", "b beat egg 1 1", "c mix a 1 1"),
                Kit.steps("b beat egg 1 1", "a beat egg 1 1", "d mix b 1 1"));
        for (int p = 0; p < 5; p++) {
            KIT.due("law 0", x.law(0, 0, p, -1, 99), 1);
            for (int q = 0; q < 5; q++) {
                KIT.due("law 1", x.law(1, 0, p, q, -1), 1);
                for (int r = 0; r < 5; r++) {
                    KIT.due("law 2", x.law(2, 0, p, q, r), 1);
                }
            }
        }
        KIT.due("no law", x.law(3, 0, 0, 0, 0), -1);
        KIT.due("no law below", x.law(-1, 0, 0, 0, 0), -1);
        KIT.due("no base", x.law(0, 5, 0, 0, 0), -1);
        KIT.due("no one", x.law(0, 0, 5, 0, 0), -1);
        KIT.due("no other", x.law(1, 0, 0, 5, 0), -1);
        KIT.due("no third", x.law(2, 0, 0, 0, 5), -1);
        KIT.due("no third below", x.law(2, 0, 0, 0, -1), -1);
        KIT.due("law asks no joining", x.about(2), -1);
    }

    private static void lawsBroken() {
        CakePapers x = Kit.with(
                Kit.steps("a beat egg 1 1", "b mix a 1 1"),
                // a is RAW for b here, but MADE in BASE
                Kit.steps("b mix a 1 1"),
                // a behind b: RAW here, MADE when joined
                Kit.steps("b mix a 1 1", "a beat egg 1 1"),
                Kit.steps("a mix b 1 1", "b mix a 1 1"));
        KIT.due("a breach", x.law(0, 0, 1, 0, 0), 0);
        KIT.due("another cake", x.law(0, 0, 2, 0, 0), 0);
        KIT.due("a ring", x.law(0, 0, 3, 0, 0), 0);
        KIT.due("a ring both ways", x.law(1, 0, 3, 3, 0), 1);
        // both PUT c of p; p is MADE for it in the one alone, and a third leaves it
        CakePapers y = Kit.with(
                Kit.steps("p beat egg 1 1"),
                Kit.steps("p beat egg 1 1", "c mix p 1 1"),
                Kit.steps("c mix p 1 1"));
        KIT.due("c of p, which is gone", y.law(1, 0, 1, 2, 0), 0);
        KIT.due("by twos: a breach, and then", y.law(2, 0, 1, 2, 2), 0);
    }

    private static void three() {
        CakePapers x = Kit.with(
                Kit.steps("a beat egg 1 1", "b beat egg 1 1"),
                Kit.steps("a beat egg 2 1", "b beat egg 1 1"),
                Kit.steps("a beat egg 3 1", "b beat egg 1 2"),
                Kit.steps("a beat egg 3 2", "b beat egg 1 3"),
                Kit.steps("b beat egg 1 1"),
                Kit.steps("a beat egg 1 1", "b beat egg 1 1", "c mix a 1 1"));
        KIT.due("1 2 ahead", x.three(0, 1, 2, 3, 0), 3);
        KIT.due("1 3 ahead", x.three(0, 1, 2, 3, 1), 3);
        KIT.due("2 3 ahead", x.three(0, 1, 2, 3, 2), 2);
        CakePapers y = Kit.with(Kit.steps("a beat egg 1 1"), Kit.steps("a beat egg 2 1"), Kit.steps("a beat egg 3 1"));
        int[][] asFirst = {{1, 1, 2}, {2, 2, 1}};
        for (int way = 0; way < 3; way++) {
            KIT.due("the two are settled as in the first of them, " + way, y.three(0, 1, 2, 1, way), asFirst[0][way]);
            KIT.due("and so turned, " + way, y.three(0, 1, 2, 2, way), asFirst[1][way]);
        }
        KIT.due("a breach ahead", x.three(0, 4, 5, 0, 0), CakePapers.GAP);
        KIT.due("a breach behind is none", x.three(0, 4, 5, 0, 1), 0);
        KIT.due("no way", x.three(0, 1, 2, 3, 3), -1);
        KIT.due("no way below", x.three(0, 1, 2, 3, -1), -1);
        KIT.due("none", x.three(6, 1, 2, 3, 0), -1);
        KIT.due("none", x.three(0, 6, 2, 3, 0), -1);
        KIT.due("none", x.three(0, 1, 6, 3, 0), -1);
        KIT.due("none", x.three(0, 1, 2, 6, 0), -1);
    }

    private static void leans() {
        CakePapers x = Kit.with(
                Kit.steps("a beat egg 1 1", "b mix milk 1 1", "c mix a 1 1"),
                Kit.steps("p chop nuts 1 1", "q chop p 1 1", "r chop q p 1 1", "b mix r 1 1", "c mix b 2 1", "a beat egg 1 1"));
        // 0 b of r, 1 much of c, 2 c of b, 3 put p, 4 put q, 5 put r
        KIT.due("changes", x.changes(0, 1), 6);
        int[] due = {0, 0, 0, 3, 2, 1};
        for (int i = 0; i < 6; i++) {
            KIT.due("leans on " + i, x.leans(0, 1, i), due[i]);
        }
        KIT.due("beyond", x.leans(0, 1, 6), -1);
        KIT.due("below", x.leans(0, 1, -1), -1);
        KIT.due("none", x.leans(0, 2, 0), -1);
        KIT.due("none first", x.leans(2, 0, 0), -1);
        KIT.due("no changes", x.leans(0, 0, 0), -1);
    }

    private static void leansOnNothingElse() {
        CakePapers x = Kit.with(
                Kit.steps("a beat egg 1 1", "b mix a 1 1"),
                // 0 out a, 1 b of milk
                Kit.steps("b mix milk 1 1"),
                // 0 a of b, 1 b of egg: without the second a ring
                Kit.steps("b mix egg 1 1", "a beat b 1 1"));
        KIT.due("b is of the BASE then: it stays so", x.leans(0, 1, 1), 0);
        KIT.due("a may stay", x.leans(0, 1, 0), 0);
        KIT.due("changes", x.changes(0, 2), 2);
        KIT.due("another breach stays", x.leans(0, 2, 1), 0);
    }

    private static void begun() {
        CakePapers x = Kit.with(
                Kit.steps("a beat egg 1 1", "b beat milk 1 1", "c mix a b 1 1"),
                Kit.steps("x beat milk 1 1", "y beat egg 1 1", "z beat egg 1 1", "c mix y x 1 1", "d bake c 1 1"));
        int[][] due = {{5, 0}, {3, 0}, {2, 0}, {1, 0}};
        for (int n = 0; n <= 3; n++) {
            KIT.due("to do " + n, x.begun(0, n, 1, 0), due[n][0]);
            KIT.due("wasted " + n, x.begun(0, n, 1, 1), due[n][1]);
        }
        int[][] turned = {{3, 0}, {2, 0}, {1, 0}, {1, 0}, {0, 0}, {0, 1}};
        for (int n = 0; n <= 5; n++) {
            KIT.due("turned to do " + n, x.begun(1, n, 0, 0), turned[n][0]);
            KIT.due("turned wasted " + n, x.begun(1, n, 0, 1), turned[n][1]);
        }
        KIT.due("n beyond", x.begun(0, 4, 1, 0), -1);
        KIT.due("n below", x.begun(0, -1, 1, 0), -1);
        KIT.due("another what", x.begun(0, 1, 1, 2), -1);
        KIT.due("what below", x.begun(0, 1, 1, -1), -1);
        KIT.due("none", x.begun(2, 0, 1, 0), -1);
        KIT.due("none", x.begun(0, 0, 2, 0), -1);
    }
}
