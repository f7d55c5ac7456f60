/** Promises 15 to 20: a JOINING, its QUARRELS, BEST, LEFT. */
public final class JoiningTest {
    private static final Kit KIT = new Kit();

    public static void main(String[] args) {
        fields();
        sides();
        beingThere();
        putByBoth();
        words();
        best();
        spent();
        answersInOrder();
        madeWhereGiven();
        KIT.finish("JoiningTest");
    }

    private static void quarrel(CakePapers x, int i, int step, int field) {
        KIT.due("quarrel " + i + " step", x.quarrel(i, 0), step);
        KIT.due("quarrel " + i + " field", x.quarrel(i, 1), field);
        KIT.due("quarrel " + i + " side", x.quarrel(i, 2), -1);
        KIT.due("quarrel " + i + " another", x.quarrel(i, 4), -1);
        KIT.due("quarrel " + i + " below", x.quarrel(i, -1), -1);
    }

    private static void fields() {
        CakePapers x = Kit.with(
                Kit.steps("a beat egg 1 1", "b beat egg 1 1", "c beat egg 1 1", "d beat egg 1 1"),
                Kit.steps("a stir egg 2 1", "b fry milk 2 2", "c stir milk 2 2", "p mix oil 1 1", "q mix oil 1 1"),
                Kit.steps("a beat milk 1 2", "b mix oil 3 3", "c stir milk 2 2", "q mix fat 1 2", "r mix oil 1 1"));
        KIT.due("join", x.join(0, 1, 2), 6);
        quarrel(x, 0, 1, 1);
        quarrel(x, 1, 1, 2);
        quarrel(x, 2, 1, 3);
        quarrel(x, 3, 1, 4);
        quarrel(x, 4, 5, 3);
        quarrel(x, 5, 5, 4);
        KIT.due("left by both", x.left(0), 1);
        KIT.due("neither changed", x.left(1), 0);
        KIT.due("put by both", x.left(2), 1);
        KIT.due("left another", x.left(3), -1);
        KIT.due("left below", x.left(-1), -1);
        for (int i = 0; i < 6; i++) {
            KIT.due("settle", x.settle(i, i % 3), true);
        }
        KIT.due("joined", x.joined(), 3);
        // a: VERB and much of the one, long and NEEDS of the other; d is OUT
        KIT.due("steps", x.makes(3, 0), 6);
        KIT.due("a much", x.step(3, 0, 0), 2);
        KIT.due("a long", x.step(3, 0, 1), 2);
        KIT.due("b much by 1", x.step(3, 1, 0), 3);
        KIT.due("b long by 2", x.step(3, 1, 1), 1);
        CakePapers y = Kit.with(Kit.steps("a stir milk 2 2", "b fry milk 3 1", "c stir milk 2 2", "p mix oil 1 1",
                "q mix fat 1 2", "r mix oil 1 1"), Kit.steps("a stir milk 2 2", "b fry milk 3 1", "c stir milk 2 2",
                "p mix oil 1 1", "q mix oil 1 2", "r mix oil 1 1"));
        KIT.due("long of q", x.step(3, 4, 1), y.step(0, 4, 1));
        x.end(0);
        Kit.tell(x, Kit.steps("a stir milk 2 2", "b fry milk 3 1", "c stir milk 2 2", "p mix oil 1 1", "q mix oil 1 2",
                "r mix oil 1 1"));
        KIT.due("as it should be", x.paper(), 4);
        KIT.due("no change", x.changes(3, 4), 0);
    }

    private static void sides() {
        CakePapers x = Kit.with(Kit.steps("a beat egg 1 1"), Kit.steps("a beat egg 2 1"), Kit.steps("a beat egg 3 1"));
        KIT.due("join", x.join(0, 1, 2), 1);
        KIT.due("not yet", x.joined(), -2);
        KIT.due("settled", x.about(3), 0);
        int[] due = {2, 3, 1};
        for (int side = 0; side < 3; side++) {
            KIT.due("settle", x.settle(0, side), true);
            KIT.due("side", x.quarrel(0, 2), side);
            KIT.due("settled", x.about(3), 1);
            KIT.due("joined", x.joined(), 3);
            KIT.due("by side " + side, x.step(3, 0, 0), due[side]);
            KIT.due("joining stays", x.about(2), 1);
            KIT.due("tear", x.tear(3), true);
            KIT.due("then it is none", x.about(2), -1);
            x.join(0, 1, 2);
        }
        KIT.due("anew it is not settled", x.about(3), 0);
        KIT.due("no side 3", x.settle(0, 3), false);
        KIT.due("no side -1", x.settle(0, -1), false);
        KIT.due("no quarrel 1", x.settle(1, 0), false);
        KIT.due("no quarrel -1", x.settle(-1, 0), false);
        KIT.due("still not", x.quarrel(0, 2), -1);
        KIT.due("no such", x.quarrel(1, 0), -1);
        KIT.due("none below", x.quarrel(-1, 0), -1);
        x.settle(0, 1);
        KIT.due("join of none", x.join(0, 1, 3), -1);
        KIT.due("join of none first", x.join(-1, 1, 2), -1);
        KIT.due("join of none second", x.join(0, 8, 2), -1);
        KIT.due("the one before stays", x.quarrel(0, 2), 1);
        KIT.due("one thrice", x.join(1, 1, 1), 0);
        KIT.due("joined at once", x.joined(), 3);
        KIT.due("neither changed", x.left(1), 1);
    }

    private static void beingThere() {
        CakePapers x = Kit.with(
                Kit.steps("a beat egg 1 1", "b beat egg 1 1", "c beat egg 1 1"),
                Kit.steps("a beat egg 5 1"),
                Kit.steps("b beat egg 1 7", "c beat egg 1 1"));
        KIT.due("join", x.join(0, 1, 2), 2);
        quarrel(x, 0, 0, 0);
        quarrel(x, 1, 1, 0);
        int[][] due = {
            // sides, STEPS, all much, all long
            {0, 0, 1, 5, 1}, {0, 1, 2, 6, 8}, {0, 2, 2, 6, 2}, {1, 0, 0, 0, 0}, {1, 1, 1, 1, 7}, {1, 2, 1, 1, 1},
            {2, 0, 1, 1, 1}, {2, 1, 2, 2, 8}, {2, 2, 2, 2, 2}};
        for (int[] d : due) {
            x.join(0, 1, 2);
            x.settle(0, d[0]);
            x.settle(1, d[1]);
            KIT.due("joined", x.joined(), 3);
            KIT.due("steps by " + d[0] + d[1], x.makes(3, 0), d[2]);
            KIT.due("much by " + d[0] + d[1], x.makes(3, 3), d[3]);
            KIT.due("long by " + d[0] + d[1], x.makes(3, 4), d[4]);
            x.tear(3);
        }
        x.join(0, 1, 2);
        KIT.due("c is out, and not by both", x.left(0), 0);
        KIT.due("neither changed none", x.left(1), 0);
        KIT.due("turned", x.join(0, 2, 1), 2);
        x.settle(0, 0);
        x.settle(1, 0);
        x.joined();
        KIT.due("long of b", x.makes(3, 4), 7);
    }

    private static void putByBoth() {
        CakePapers x = Kit.with("", Kit.steps("b beat egg 1 2", "a mix b 3 4"), Kit.steps("a mix b 5 4", "c fry a 1 1"));
        KIT.due("join", x.join(0, 1, 2), 1);
        quarrel(x, 0, 1, 2);
        int[] due = {3, 5, 3};
        for (int side = 0; side < 3; side++) {
            x.join(0, 1, 2);
            x.settle(0, side);
            KIT.due("told side", x.quarrel(0, 2), side);
            KIT.due("joined", x.joined(), 3);
            KIT.due("as in BASE is 0", x.step(3, 1, 0), due[side]);
            KIT.due("all there", x.makes(3, 0), 3);
            x.tear(3);
        }
        x.join(0, 1, 2);
        KIT.due("put by both", x.left(2), 1);
        KIT.due("alike", x.join(0, 1, 1), 0);
        KIT.due("put by both", x.left(2), 2);
    }

    private static void words() {
        CakePapers x = Kit.with(
                Kit.steps("a beat egg 1 1", "b beat egg 1 1", "c mix a milk 1 1"),
                Kit.steps("a beat egg 1 1", "b beat egg 1 1", "c mix a 1 1", "d bake c 1 1"),
                Kit.steps("a beat egg 1 1", "b beat egg 1 1", "c mix b 1 1", "d bake c 1 1"));
        KIT.due("join", x.join(0, 1, 2), 1);
        // c of a or of b: what is left over is alike, too
        KIT.due("of words", x.quarrel(0, 3), 1);
        CakePapers y = Kit.with(Kit.steps("a beat egg 1 1"), Kit.steps("a beat egg 2 1"), Kit.steps("a beat egg 3 1"));
        y.join(0, 1, 2);
        KIT.due("a true one", y.quarrel(0, 3), 0);
        y.settle(0, 2);
        KIT.due("whatever it is settled by", y.quarrel(0, 3), 0);
        // with a BREACH it is none of words: c needs a, that is out
        CakePapers z = Kit.with(
                Kit.steps("a beat egg 1 1", "b beat egg 1 1", "c mix p 1 1"),
                Kit.steps("a beat egg 1 1", "b beat egg 1 1", "c mix a 1 1"),
                Kit.steps("b beat egg 1 1", "c mix b 1 1"));
        KIT.due("join", z.join(0, 1, 2), 1);
        KIT.due("a breach by 0", z.quarrel(0, 3), 0);
        z.settle(0, 0);
        KIT.due("a breach", z.joined(), -3);
        z.settle(0, 1);
        KIT.due("none", z.joined(), 3);
    }

    private static void best() {
        CakePapers x = Kit.with(
                Kit.steps("a beat egg 5 5", "b beat egg 5 5"),
                Kit.steps("a beat egg 4 9", "b beat egg 9 5"),
                Kit.steps("a beat egg 7 3", "b beat egg 8 5"));
        KIT.due("join", x.join(0, 1, 2), 3);
        best(x, "0", 0, 0, 0, 0);
        best(x, "much", 16, 1, 0, 0);
        best(x, "0 - much", -9, 0, 0, 2);
        best(x, "long - much", 5, 0, 0, 2);
        best(x, "much > 11", 1, 0, 0, 0);
        best(x, "much = 13", 1, 0, 0, 0);
        best(x, "long = 8 and much = 13", 1, 0, 1, 0);
        best(x, "long = 10", 1, 0, 2, 0);
        best(x, "0 - 9999 * 100 - 100", -1000000, 0, 0, 0);
        KIT.due("beyond", x.best(3), CakePapers.GAP);
        KIT.due("below", x.best(-2), CakePapers.GAP);
        KIT.due("not settled by that", x.about(3), 0);
        x.join(0, 1, 1);
        Kit.want(x, "want much;");
        KIT.due("no quarrel", x.best(-1), 13);
        KIT.due("no such side", x.best(0), CakePapers.GAP);
        x.join(0, 1, 2);
        x.image(0);
        KIT.due("anew", x.best(-1), 16);
        x.join(0, 2, 2);
        KIT.due("another joining", x.best(-1), 15);
        x.back(0);
        KIT.due("back", x.best(-1), 16);
        x.tear(0);
        KIT.due("torn", x.best(-1), CakePapers.GAP);
    }

    private static void best(CakePapers x, String want, int value, int... sides) {
        KIT.due(want, Kit.want(x, "want " + want + ";") > 0, true);
        KIT.due("best of " + want, x.best(-1), value);
        for (int i = 0; i < sides.length; i++) {
            KIT.due("best of " + want + " side " + i, x.best(i), sides[i]);
        }
    }

    private static void spent() {
        CakePapers x = Kit.with(
                Kit.steps("a beat egg 1 1", "b beat egg 1 1"),
                Kit.steps("a fry milk 2 2", "b fry egg 2 1"),
                Kit.steps("a mix oil 3 3", "b mix egg 3 1"),
                Kit.steps("a mix oil 3 3", "b mix egg 3 3"),
                Kit.steps("a fry milk 2 2", "b fry egg 2 2"));
        KIT.due("six", x.join(0, 1, 2), 6);
        Kit.want(x, "want much;");
        KIT.due("best of six", x.best(-1), 6);
        KIT.due("the last", x.best(5), 1);
        KIT.due("seven", x.join(0, 4, 3), 7);
        KIT.due("spent", x.best(-1), -2);
        KIT.due("spent side", x.best(0), -2);
        KIT.due("spent beyond", x.best(9), -2);
        // a BREACH by every row
        CakePapers y = Kit.with(
                Kit.steps("a beat egg 1 1", "b beat egg 1 1"),
                Kit.steps("a beat egg 1 1", "b beat egg 2 1", "c mix a 1 1"),
                Kit.steps("b beat egg 3 1"));
        KIT.due("one", y.join(0, 1, 2), 1);
        KIT.due("none joined", y.best(-1), CakePapers.GAP);
        KIT.due("none joined, side", y.best(0), CakePapers.GAP);
    }

    private static void answersInOrder() {
        CakePapers x = Kit.with(
                Kit.steps("a beat egg 1 1", "b beat egg 1 1"),
                Kit.steps("a beat egg 1 1", "b beat egg 2 1", "c mix a 1 1"),
                Kit.steps("b beat egg 3 1"));
        x.join(0, 1, 2);
        KIT.due("not settled goes ahead of a breach", x.joined(), -2);
        x.settle(0, 0);
        KIT.due("a breach", x.joined(), -3);
        KIT.due("nothing came", x.about(0), 3);
        for (int i = 3; i < 8; i++) {
            x.paper();
        }
        KIT.due("full goes ahead of all", x.joined(), -1);
        x.join(0, 1, 2);
        KIT.due("full, not settled", x.joined(), -1);
    }

    private static void madeWhereGiven() {
        // c of a: in BASE a is RAW, in the one it is MADE; c's NEEDS are BASE's, so a may go again
        CakePapers x = Kit.with(
                Kit.steps("c mix a 1 1"),
                Kit.steps("a beat egg 1 1", "c mix a 1 1"),
                Kit.steps("c mix a 1 1", "a beat egg 2 1"),
                Kit.steps("a beat egg 1 1", "c mix a 1 1", "d mix c 1 1"),
                Kit.steps("c mix a 1 1", "d fry c 1 1"));
        KIT.due("put a", x.join(0, 1, 1), 0);
        KIT.due("joined", x.joined(), 5);
        KIT.due("a comes ahead", x.step(5, 1, 3), 1);
        // BASE has a, the one leaves it and keeps c of a: MADE in BASE
        KIT.due("left", x.join(1, 0, 0), 0);
        KIT.due("breach", x.joined(), -3);
        // d put by both, with another VERB; a left by neither
        KIT.due("d", x.join(1, 3, 4), 1);
        quarrel(x, 0, 2, 1);
        x.settle(0, 1);
        KIT.due("a is gone and c needs it", x.joined(), -3);
        KIT.due("order of BASE first", x.join(0, 2, 2), 0);
        KIT.due("joined", x.joined(), 6);
        KIT.due("a ahead of c", x.step(6, 0, 0), 2);
    }
}
