/** Each sentence of the document that names a boundary of a JOINING, its QUARRELS, JOINED, BEST or LEFT. */
public final class JoinEdgesTest {
    private static final Kit KIT = new Kit();
    private static final int[] NO_PAPERS = {-1, 8, Kit.LEAST_INT, Kit.MOST_INT};
    private static final int[] WILD = {-1, 48, 49, 64, Kit.LEAST_INT, Kit.MOST_INT};

    public static void main(String[] args) {
        orderOfSteps();
        changedByBoth();
        inBaseAndOne();
        inBaseAlone();
        putByBoth();
        numbers();
        mostQuarrels();
        sides();
        thereBySide();
        joinedTwelve();
        joinedInOrder();
        needsMadeWhereGiven();
        wordsAlone();
        joinCall();
        quarrelCall();
        settleCall();
        joinedCall();
        bestRows();
        bestSpent();
        bestCall();
        leftCall();
        KIT.finish("JoinEdgesTest");
    }

    /** A JOINING of PAPERS 0, 1 and 2, with QUARRELS told as STEP and field. */
    private static void quarrels(CakePapers x, int... due) {
        KIT.due("join", x.join(0, 1, 2), due.length / 2);
        for (int i = 0; i < due.length / 2; i++) {
            KIT.due("STEP of " + i, x.quarrel(i, 0), due[2 * i]);
            KIT.due("field of " + i, x.quarrel(i, 1), due[2 * i + 1]);
        }
    }

    /** The JOINED PAPER by these sides: the much of its STEPS, one by one; it is torn again. */
    private static void muches(CakePapers x, int[] sides, int... due) {
        x.join(0, 1, 2);
        for (int i = 0; i < sides.length; i++) {
            KIT.due("settle", x.settle(i, sides[i]), true);
        }
        int number = x.about(0);
        KIT.due("joined", x.joined(), number);
        KIT.due("STEPS", x.makes(number, 0), due.length);
        for (int i = 0; i < due.length; i++) {
            KIT.due("much of STEP " + i, x.step(number, i, 0), due[i]);
        }
        x.tear(number);
    }

    private static void breach(CakePapers x, int... sides) {
        x.join(0, 1, 2);
        for (int i = 0; i < sides.length; i++) {
            KIT.due("settle", x.settle(i, sides[i]), true);
        }
        KIT.due("a BREACH", x.joined(), -3);
        KIT.due("no PAPER more", x.about(0), 3);
    }

    private static int[] by(int... sides) {
        return sides;
    }

    private static void orderOfSteps() {
        KIT.sentence("STEPS of BASE in order, then those that the one PUT, in its order, then those that the other alone PUT.");
        CakePapers x = Kit.with(
                Kit.steps("a v p 1 1", "b v p 2 1"),
                Kit.steps("m v p 3 1", "b v p 2 1", "n v p 4 1", "a v p 1 1"),
                Kit.steps("s v p 5 1", "n v p 6 1", "b v p 2 1", "a v p 1 1", "m v p 7 1", "t v p 8 1"));
        quarrels(x, 2, 2, 3, 2);
        muches(x, by(0, 1), 1, 2, 3, 6, 5, 8);
        muches(x, by(1, 0), 1, 2, 7, 4, 5, 8);
        CakePapers none = Kit.with("", "", "");
        quarrels(none);
        muches(none, by());
    }

    private static void changedByBoth() {
        KIT.sentence("in BASE and both: VERB, much, long, NEEDS each: as in the one that changed it; "
                + "if both did, and not alike, a QUARREL.");
        String base = "a v p 1 1";
        String[] fields = {"a w p 1 1", "a v p 2 1", "a v p 1 2", "a v q 1 1"};
        String[] others = {"a x p 1 1", "a v p 3 1", "a v p 1 3", "a v r 1 1"};
        for (int f = 0; f < 4; f++) {
            CakePapers x = Kit.with(Kit.steps(base), Kit.steps(fields[f]), Kit.steps(others[f]));
            quarrels(x, 0, f + 1);
            KIT.due("alike", x.join(0, 1, 1), 0);
            KIT.due("joined", x.joined(), 3);
            KIT.due("as both have it", x.changes(1, 3), 0);
            KIT.due("the one alone", x.join(0, 1, 0), 0);
            KIT.due("joined", x.joined(), 4);
            KIT.due("as in the one", x.changes(1, 4), 0);
            KIT.due("the other alone", x.join(0, 0, 1), 0);
            KIT.due("joined", x.joined(), 5);
            KIT.due("as in the other", x.changes(1, 5), 0);
            for (int g = 0; g < 4; g++) {
                if (g != f) {
                    CakePapers y = Kit.with(Kit.steps(base), Kit.steps(fields[f]), Kit.steps(fields[g]));
                    quarrels(y);
                    KIT.due("joined", y.joined(), 3);
                    KIT.due("both changed it, each another field", y.changes(0, 3), 2);
                }
            }
        }
        CakePapers turned = Kit.with(Kit.steps("a v p q 1 1"), Kit.steps("a v r s 1 1"), Kit.steps("a v s r 1 1"));
        quarrels(turned);
        // one changed it and the other only told the NEEDS in another order
        CakePapers order = Kit.with(Kit.steps("a v p q 1 1"), Kit.steps("a v q p 1 1"), Kit.steps("a v s 1 1"));
        quarrels(order);
        order.joined();
        KIT.due("as the other changed it", order.changes(2, 3), 0);
    }

    private static void inBaseAndOne() {
        KIT.sentence("In BASE and one: if that one ALTERED it, a QUARREL of being there (field 0); else it is OUT.");
        String[] altered = {"b w p q 1 1", "b v p q 0 1", "b v p q 1 0", "b v p r 1 1", "b v p 1 1", "b w s 9 9"};
        for (String line : altered) {
            CakePapers x = Kit.with(Kit.steps("a v p 7 1", "b v p q 1 1"), Kit.steps("a v p 7 1", line), Kit.steps("a v p 7 1"));
            quarrels(x, 1, 0);
            CakePapers y = Kit.with(Kit.steps("a v p 7 1", "b v p q 1 1"), Kit.steps("a v p 7 1"), Kit.steps("a v p 7 1", line));
            quarrels(y, 1, 0);
        }
        CakePapers same = Kit.with(Kit.steps("a v p 7 1", "b v p q 1 1"), Kit.steps("a v p 7 1", "b v q p 1 1"),
                Kit.steps("a v p 7 1"));
        quarrels(same);
        muches(same, by(), 7);
        KIT.due("turned", same.join(0, 2, 1), 0);
        KIT.due("joined", same.joined(), 3);
        KIT.due("OUT", same.makes(3, 0), 1);
    }

    private static void inBaseAlone() {
        KIT.sentence("In BASE alone: OUT (LEFT by both). PUT by one: there.");
        CakePapers x = Kit.with(Kit.many('a', 12, "v egg 1 1"), Kit.steps("y v egg 2 1"), Kit.steps("z v egg 3 1"));
        quarrels(x);
        KIT.due("LEFT by both", x.left(0), 12);
        KIT.due("neither changed", x.left(1), 0);
        KIT.due("PUT by both", x.left(2), 0);
        muches(x, by(), 2, 3);
    }

    private static void putByBoth() {
        KIT.sentence("PUT by both: each field in which they are not alike a QUARREL.");
        CakePapers x = Kit.with("", Kit.steps("a v p 1 1", "b v p 1 1", "c v p q 1 1"),
                Kit.steps("a w q 2 2", "b v p 1 1", "c v q p 1 3"));
        quarrels(x, 0, 1, 0, 2, 0, 3, 0, 4, 2, 3);
        KIT.due("PUT by both", x.left(2), 3);
        muches(x, by(0, 0, 0, 0, 0), 1, 1, 1);
        muches(x, by(0, 1, 0, 0, 0), 2, 1, 1);
        KIT.sentence("2 as in BASE (where that has no such STEP: 0).");
        muches(x, by(2, 2, 2, 2, 2), 1, 1, 1);
        x.join(0, 1, 2);
        for (int i = 0; i < 5; i++) {
            x.settle(i, 2);
            KIT.due("the side is told as it is", x.quarrel(i, 2), 2);
        }
        x.joined();
        KIT.due("all as in the one", x.changes(1, 3), 0);
    }

    private static void numbers() {
        KIT.sentence("QUARRELS are numbered by STEPS as above, then fields (0 there, 1 VERB, 2 much, 3 long, 4 NEEDS).");
        CakePapers x = Kit.with(
                Kit.steps("a v p 1 1", "b v p 1 1", "c v p 1 1"),
                Kit.steps("z v p 1 1", "c w q 2 2", "b v p 2 1", "a v p 1 2"),
                Kit.steps("a v p 1 3", "c x r 3 3", "z x p 1 2"));
        quarrels(x, 0, 3, 1, 0, 2, 1, 2, 2, 2, 3, 2, 4, 3, 1, 3, 3);
    }

    private static void mostQuarrels() {
        CakePapers x = Kit.with(Kit.many('a', 12, "v egg 1 1"), Kit.many('a', 12, "w oil 2 2"), Kit.many('a', 12, "x fat 3 3"));
        KIT.due("four of each STEP", x.join(0, 1, 2), 48);
        KIT.due("STEP of the last", x.quarrel(47, 0), 11);
        KIT.due("field of the last", x.quarrel(47, 1), 4);
        for (int i = 0; i < 48; i++) {
            KIT.due("not all are SETTLED", x.joined(), -2);
            KIT.due("settle " + i, x.settle(i, i % 3), true);
            KIT.due("SETTLED", x.about(3), i + 1);
        }
        KIT.due("no more", x.settle(48, 0), false);
        KIT.due("joined", x.joined(), 3);
        KIT.due("SPENT", x.best(-1), -2);
        CakePapers y = Kit.with("", Kit.many('a', 12, "w oil 2 2"), Kit.many('a', 12, "x fat 3 3"));
        KIT.due("PUT by both", y.join(0, 1, 2), 48);
        CakePapers z = Kit.with(Kit.many('a', 12, "v egg 1 1"), Kit.many('a', 6, "w oil 2 2"), Kit.many('g', 6, "x fat 3 3"));
        KIT.due("of being there", z.join(0, 1, 2), 12);
        KIT.due("the last", z.quarrel(11, 1), 0);
        CakePapers all = Kit.with(Kit.many('a', 8, "v egg 1 1"), Kit.many('i', 8, "w egg 2 2"), Kit.many('q', 8, "x egg 3 3"));
        KIT.due("24 STEPS, no QUARREL", all.join(0, 1, 2), 0);
        KIT.due("16 are there", all.joined(), -3);
        // more STEPS than two PAPERS have: none may be forgotten
        CakePapers three = Kit.with(Kit.many('a', 12, "v egg 1 1"), Kit.many('m', 12, "w egg 2 2"), Kit.steps("y v egg 1 1"));
        KIT.due("25 STEPS, no QUARREL", three.join(0, 1, 2), 0);
        KIT.due("13 are there", three.joined(), -3);
        CakePapers most = Kit.with(Kit.many('a', 12, "v egg 1 1"), Kit.many('m', 12, "w egg 2 2"),
                Kit.many('a', 12, "v oil 3 3").replace("make ", "make x"));
        KIT.due("36 STEPS, no QUARREL", most.join(0, 1, 2), 0);
        KIT.due("LEFT by both", most.left(0), 12);
        KIT.due("PUT by both", most.left(2), 0);
        KIT.due("24 are there", most.joined(), -3);
    }

    private static void sides() {
        KIT.sentence("A QUARREL is SETTLED by a side: 0 as in the one, 1 as in the other, 2 as in BASE");
        CakePapers x = Kit.with(Kit.steps("a v p 1 1", "b v p 4 1"), Kit.steps("a v p 2 1", "b v p 5 1"),
                Kit.steps("a v p 3 1", "b v p 6 1"));
        int[] a = {2, 3, 1};
        int[] b = {5, 6, 4};
        for (int i = 0; i < 3; i++) {
            for (int j = 0; j < 3; j++) {
                muches(x, by(i, j), a[i], b[j]);
            }
        }
    }

    private static void thereBySide() {
        KIT.sentence("Being there by a side that has not the STEP: it is OUT; else it is as there.");
        CakePapers x = Kit.with(
                Kit.steps("a v p 1 1", "b v p 2 2", "c v p 3 3"),
                Kit.steps("a v p 1 1", "b w q 5 5"),
                Kit.steps("a v p 1 1", "c w q 6 6"));
        quarrels(x, 1, 0, 2, 0);
        muches(x, by(0, 0), 1, 5);
        muches(x, by(0, 1), 1, 5, 6);
        muches(x, by(0, 2), 1, 5, 3);
        muches(x, by(1, 0), 1);
        muches(x, by(1, 1), 1, 6);
        muches(x, by(1, 2), 1, 3);
        muches(x, by(2, 0), 1, 2);
        muches(x, by(2, 1), 1, 2, 6);
        muches(x, by(2, 2), 1, 2, 3);
        x.join(0, 1, 2);
        x.settle(0, 0);
        x.settle(1, 1);
        x.joined();
        KIT.due("all fields of b as there", x.change(1, 3, 0, 0), 5);
        KIT.due("and of c", x.changes(2, 3), 1);
    }

    private static void joinedTwelve() {
        KIT.sentence("JOINED: all SETTLED, without a BREACH: a PAPER in its order");
        CakePapers x = Kit.with("", Kit.many('a', 6, "v egg 1 1"), Kit.many('g', 6, "v egg 1 1"));
        muches(x, by(), 1, 1, 1, 1, 1, 1, 1, 1, 1, 1, 1, 1);
        CakePapers y = Kit.with("", Kit.many('a', 6, "v egg 1 1"), Kit.many('g', 7, "v egg 1 1"));
        breach(y);
        // a STEP of 13 that a side leaves: being there
        CakePapers z = Kit.with(Kit.steps("z v p 1 1"), Kit.many('a', 6, "v egg 1 1") + Kit.steps("z v p 2 1"),
                Kit.many('g', 6, "v egg 1 1"));
        quarrels(z, 0, 0);
        breach(z, 0);
        breach(z, 2);
        muches(z, by(1), 1, 1, 1, 1, 1, 1, 1, 1, 1, 1, 1, 1);
    }

    private static void joinedInOrder() {
        KIT.sentence("SETTLED in an order: again and again the first STEP (in that order) of which no NEED is MADE by a STEP "
                + "that is not yet there comes next");
        CakePapers x = Kit.with(
                Kit.steps("a v p 1 1", "b v p 2 1", "c v p 3 1"),
                // a of c, and of d that is PUT
                Kit.steps("c v p 3 1", "d v p 4 1", "a v c d 1 1", "b v p 2 1"),
                // e of b, PUT behind all
                Kit.steps("a v p 1 1", "b v p 2 1", "c v p 3 1", "e v b 5 1"));
        muches(x, by(), 2, 3, 4, 1, 5);
        CakePapers ring = Kit.with(
                Kit.steps("a v p 1 1", "b v p 2 1"),
                Kit.steps("b v p 2 1", "a v b 1 1"),
                Kit.steps("a v p 1 1", "b v a 2 1"));
        quarrels(ring);
        breach(ring);
    }

    private static void needsMadeWhereGiven() {
        KIT.sentence("(NEEDS from the PAPER that gave them: MADE there).");
        // the other leaves a; c of a is PUT by the one, and MADE there
        breach(Kit.with(Kit.steps("a v p 1 1"), Kit.steps("a v p 1 1", "c v a 2 1"), ""));
        // the same, but RAW there
        muches(Kit.with(Kit.steps("a v p 1 1"), Kit.steps("c v a 2 1", "a v p 1 1"), ""), by(), 2);
        // NEEDS of b are BASE's: MADE there
        breach(Kit.with(Kit.steps("a v p 1 1", "b v a 2 1"), Kit.steps("b v a 3 1"), Kit.steps("b v a 2 2")));
        // NEEDS of b are BASE's: RAW there, as a stands behind
        muches(Kit.with(Kit.steps("b v a 2 1", "a v p 1 1"), Kit.steps("b v a 3 1"), Kit.steps("b v a 2 2")), by(), 3);
        // NEEDS of b by a QUARREL: of the one a is MADE, of the other q is RAW; a is OUT
        CakePapers x = Kit.with(Kit.steps("a v p 1 1", "b v p 2 1"), Kit.steps("a v p 1 1", "b v a 2 1"), Kit.steps("b v q 2 1"));
        quarrels(x, 1, 4);
        breach(x, 0);
        muches(x, by(1), 2);
        muches(x, by(2), 2);
    }

    private static void wordsAlone() {
        KIT.sentence("A QUARREL is of WORDS alone, if with it settled by 0 and by 1, all others by 0, both are JOINED and make the SAME.");
        // d of a or of b, which are ALIKE: both are no ENDS by either, as e NEEDS them
        CakePapers x = Kit.with(
                Kit.steps("a v p 1 1", "b v p 1 1", "d v q 1 1", "e v a b 1 1"),
                Kit.steps("a v p 1 1", "b v p 1 1", "d v a 1 1", "e v a b 1 1"),
                Kit.steps("a v p 1 1", "b v p 1 1", "d v b 1 1", "e v a b 1 1"));
        quarrels(x, 2, 4);
        KIT.due("of WORDS", x.quarrel(0, 3), 1);
        for (int side = 0; side < 3; side++) {
            x.settle(0, side);
            KIT.due("however SETTLED", x.quarrel(0, 3), 1);
        }
        KIT.due("it stays SETTLED", x.quarrel(0, 2), 2);
        // the other altered a, so that a and b are not ALIKE when joined
        CakePapers y = Kit.with(
                Kit.steps("a v p 1 1", "b v p 1 1", "d v q 1 1", "c v q 1 1"),
                Kit.steps("a v p 1 1", "b v p 1 1", "d v a 1 1", "c v a b 1 1"),
                Kit.steps("a v p 2 1", "b v p 1 1", "d v b 1 1", "c v q 1 1"));
        quarrels(y, 2, 4);
        KIT.due("a is other than b now", y.quarrel(0, 3), 0);
        CakePapers z = Kit.with(
                Kit.steps("a v p 1 1", "b v p 1 1", "c v q 1 1"),
                Kit.steps("b v p 1 1", "c v b 1 1"),
                Kit.steps("a v p 2 1", "b v p 1 1", "c v a 1 1"));
        quarrels(z, 0, 0, 2, 4);
        KIT.due("by 0 and by 1, another thing", z.quarrel(0, 3), 0);
        KIT.due("by 1 a BREACH, as the other is by 0", z.quarrel(1, 3), 0);
        z.settle(0, 1);
        KIT.due("however the other is SETTLED", z.quarrel(1, 3), 0);
        // by 0 a BREACH, by 1 none
        CakePapers w = Kit.with(
                Kit.steps("a v p 1 1", "c v q 1 1"),
                Kit.steps("a v p 1 1", "c v a 1 1"),
                Kit.steps("c v r 1 1"));
        quarrels(w, 1, 4);
        KIT.due("by 0 a BREACH", w.quarrel(0, 3), 0);
        othersByZero();
    }

    /** d of a or of b is of WORDS while a and b are ALIKE, as they are with the QUARREL of a's much by 0. */
    private static void othersByZero() {
        CakePapers x = Kit.with(
                Kit.steps("a v p 1 1", "b v p 2 1", "d v q 1 1", "e v a b 1 1"),
                Kit.steps("a v p 2 1", "b v p 2 1", "d v a 1 1", "e v a b 1 1"),
                Kit.steps("a v p 3 1", "b v p 2 1", "d v b 1 1", "e v a b 1 1"));
        quarrels(x, 0, 2, 2, 4);
        KIT.due("a is another thing", x.quarrel(0, 3), 0);
        KIT.due("d is of WORDS, however the one ahead was looked at", x.quarrel(1, 3), 1);
        KIT.due("again", x.quarrel(0, 3), 0);
        x.settle(0, 1);
        KIT.due("however that is SETTLED", x.quarrel(1, 3), 1);
        Kit.want(x, "want much;");
        KIT.due("BEST by 1", x.best(0), 1);
        KIT.due("however BEST was looked for", x.quarrel(1, 3), 1);
    }

    private static void joinCall() {
        KIT.sentence("A JOINING of three PAPERS (each may be another one, too) in place of that before: how many QUARRELS; "
                + "NONE, doing nothing, if one is none.");
        CakePapers x = Kit.with(Kit.steps("a v p 1 1"), Kit.steps("a v p 2 1"), Kit.steps("a v p 3 1"));
        KIT.due("one thrice", x.join(1, 1, 1), 0);
        KIT.due("in place of that", x.join(0, 1, 2), 1);
        x.settle(0, 1);
        for (int none : new int[] {-1, 3, 8, Kit.LEAST_INT, Kit.MOST_INT}) {
            KIT.due("no BASE " + none, x.join(none, 1, 2), -1);
            KIT.due("no one " + none, x.join(0, none, 2), -1);
            KIT.due("no other " + none, x.join(0, 1, none), -1);
            KIT.due("that before is there", x.about(2), 1);
            KIT.due("and SETTLED", x.quarrel(0, 2), 1);
        }
        KIT.due("the same anew", x.join(0, 1, 2), 1);
        KIT.due("is not SETTLED", x.about(3), 0);
        KIT.due("turned", x.join(0, 2, 1), 1);
        x.settle(0, 0);
        x.joined();
        KIT.due("as in the one, that was the other", x.makes(3, 3), 3);
        KIT.due("a JOINED PAPER may be joined", x.join(0, 3, 1), 1);
    }

    private static void quarrelCall() {
        KIT.sentence("Of a QUARREL of it what 0: its STEP (in the order of the JOINING, from 0 on), 1: its field, "
                + "2: by which side it is SETTLED (NONE), 3: 1 if it is of WORDS alone, else 0; "
                + "NONE if there is none such, or for another what.");
        CakePapers x = Kit.with(Kit.steps("a v p 1 1"), Kit.steps("a v p 2 1"), Kit.steps("a v p 3 1"));
        for (int what = -1; what < 5; what++) {
            KIT.due("no JOINING", x.quarrel(0, what), -1);
        }
        x.join(0, 1, 2);
        int[] due = {0, 2, -1, 0};
        for (int what = 0; what < 4; what++) {
            KIT.due("what " + what, x.quarrel(0, what), due[what]);
            KIT.due("one beyond", x.quarrel(1, what), -1);
            for (int none : WILD) {
                KIT.due("no QUARREL " + none, x.quarrel(none, what), -1);
            }
        }
        for (int what : new int[] {-1, 4, Kit.LEAST_INT, Kit.MOST_INT}) {
            KIT.due("another what " + what, x.quarrel(0, what), -1);
        }
    }

    private static void settleCall() {
        KIT.sentence("It is SETTLED (or anew): true; false if there is none such, or no such side.");
        CakePapers x = Kit.with(Kit.steps("a v p 1 1"), Kit.steps("a v p 2 1"), Kit.steps("a v p 3 1"));
        KIT.due("no JOINING", x.settle(0, 0), false);
        x.join(0, 1, 2);
        for (int side : new int[] {-1, 3, Kit.LEAST_INT, Kit.MOST_INT}) {
            KIT.due("no side " + side, x.settle(0, side), false);
            KIT.due("not SETTLED", x.about(3), 0);
        }
        for (int side : new int[] {0, 1, 2, 0, 0}) {
            KIT.due("anew", x.settle(0, side), true);
            KIT.due("by that", x.quarrel(0, 2), side);
            KIT.due("one", x.about(3), 1);
            KIT.due("no side 3", x.settle(0, 3), false);
            KIT.due("no side -1", x.settle(0, -1), false);
            KIT.due("by that still", x.quarrel(0, 2), side);
        }
        KIT.due("one beyond", x.settle(1, 0), false);
        for (int none : WILD) {
            KIT.due("no QUARREL " + none, x.settle(none, 0), false);
        }
        x.join(0, 1, 1);
        KIT.due("a JOINING without one", x.settle(0, 0), false);
    }

    private static void joinedCall() {
        KIT.sentence("The JOINED PAPER comes behind all: its number; NONE, doing nothing, if there is no JOINING, or there are 8; "
                + "-2 if a QUARREL is not SETTLED; -3: a BREACH.");
        CakePapers x = Kit.with(Kit.steps("a v p 1 1", "c v p 1 1"), Kit.steps("a v p 1 1", "b v a 1 1", "c v p 2 1"),
                Kit.steps("c v p 3 1"), Kit.steps("a v p 1 1", "c v p 4 1"));
        KIT.due("no JOINING", x.joined(), -1);
        x.join(0, 1, 2);
        KIT.due("not SETTLED, and a BREACH", x.joined(), -2);
        x.settle(0, 0);
        KIT.due("a BREACH", x.joined(), -3);
        KIT.due("nothing comes", x.about(0), 4);
        KIT.due("the JOINING stays", x.about(3), 1);
        x.join(0, 1, 3);
        KIT.due("not SETTLED", x.joined(), -2);
        x.settle(0, 1);
        for (int number = 4; number < 8; number++) {
            KIT.due("behind all", x.joined(), number);
            KIT.due("much", x.makes(number, 3), 6);
        }
        KIT.due("there are 8", x.joined(), -1);
        x.join(0, 1, 2);
        KIT.due("there are 8, not SETTLED", x.joined(), -1);
        x.settle(0, 0);
        KIT.due("there are 8, a BREACH", x.joined(), -1);
        KIT.due("doing nothing", x.about(0), 8);
        x.tear(7);
        KIT.due("the JOINING is torn with a PAPER", x.joined(), -1);
    }

    private static void best(CakePapers x, String want, int value, int... sides) {
        KIT.due(want, Kit.want(x, "want " + want + ";") > 0, true);
        KIT.due("BEST of " + want, x.best(-1), value);
        for (int i = 0; i < sides.length; i++) {
            KIT.due("BEST of " + want + ", side " + i, x.best(i), sides[i]);
        }
        KIT.due("one beyond", x.best(sides.length), CakePapers.GAP);
    }

    private static void bestRows() {
        KIT.sentence("BEST: of all rows of sides (the last QUARREL's counted up first) by which it is JOINED that of most WANT; "
                + "of like ones the first.");
        CakePapers x = Kit.with(Kit.steps("a v p 1 1", "b v p 1 1"), Kit.steps("a v p 2 1", "b v p 2 1"),
                Kit.steps("a v p 3 1", "b v p 3 1"));
        x.join(0, 1, 2);
        best(x, "7", 7, 0, 0);
        best(x, "0 - 7", -7, 0, 0);
        best(x, "much", 6, 1, 1);
        best(x, "0 - much", -2, 2, 2);
        // 2 + 3 comes ahead of 3 + 2, and 2 + 1 ahead of 1 + 2
        best(x, "much = 5", 1, 0, 1);
        best(x, "much = 3", 1, 0, 2);
        best(x, "much = 4", 1, 0, 0);
        best(x, "8192*8192*32", Kit.LEAST_INT, 0, 0);
        best(x, "8192*8192*32 - 1", Kit.MOST_INT, 0, 0);
        best(x, "8192*8192*32 + much", Kit.LEAST_INT + 6, 1, 1);
        // the most wraps: with much 6 it is the least of all
        best(x, "8192*8192*32 - 6 + much", Kit.MOST_INT, 0, 1);
        // each row by itself: what a row ahead came to is no part of it
        CakePapers w = Kit.with(Kit.steps("a v p 1 1", "b v p 1 5"), Kit.steps("a v p 2 9", "b v a 1 5"),
                Kit.steps("a v p 3 7", "b v q 1 5"));
        w.join(0, 1, 2);
        String[] units = {"steps", "much", "long", "path", "ends"};
        int[][] most = {{2, 0, 0, 0}, {4, 1, 0, 0}, {14, 0, 0, 0}, {14, 0, 0, 0}, {2, 0, 0, 1}};
        int[][] fewest = {{2, 0, 0, 0}, {2, 2, 0, 0}, {6, 0, 2, 0}, {5, 0, 2, 1}, {1, 0, 0, 0}};
        for (int u = 0; u < units.length; u++) {
            best(w, units[u], most[u][0], most[u][1], most[u][2], most[u][3]);
            best(w, "0 - " + units[u], -fewest[u][0], fewest[u][1], fewest[u][2], fewest[u][3]);
        }
        // 2 is as 0 where BASE has no such STEP: the first of both
        CakePapers y = Kit.with("", Kit.steps("a v p 2 1"), Kit.steps("a v p 1 1"));
        y.join(0, 1, 2);
        best(y, "much", 2, 0);
        // rows that are a BREACH do not count: a is OUT by 1, and b NEEDS it
        CakePapers z = Kit.with(Kit.steps("a v p 9 1", "b v a 1 1"), Kit.steps("a v p 8 1", "b v a 1 1"), Kit.steps("b v a 1 1"));
        z.join(0, 1, 2);
        best(z, "0 - steps", -2, 0);
        best(z, "much", 10, 2);
    }

    private static void bestSpent() {
        KIT.sentence("SPENT with more than 6 QUARRELS.");
        CakePapers x = Kit.with(Kit.many('a', 6, "v egg 1 1"), Kit.many('a', 6, "v egg 2 1"), Kit.many('a', 6, "v egg 3 1"),
                Kit.many('a', 7, "v egg 1 1"), Kit.many('a', 7, "v egg 2 1"), Kit.many('a', 7, "v egg 3 1"));
        KIT.due("six", x.join(0, 1, 2), 6);
        best(x, "much", 18, 1, 1, 1, 1, 1, 1);
        best(x, "0 - much", -6, 2, 2, 2, 2, 2, 2);
        best(x, "much = 13", 1, 0, 0, 0, 0, 0, 1);
        KIT.due("seven", x.join(3, 4, 5), 7);
        for (int what : new int[] {-1, 0, 6, 7, -2, Kit.LEAST_INT, Kit.MOST_INT}) {
            KIT.due("SPENT " + what, x.best(what), -2);
        }
        for (int i = 0; i < 7; i++) {
            x.settle(i, 0);
        }
        KIT.due("SPENT, all SETTLED", x.best(-1), -2);
        KIT.due("but JOINED", x.joined(), 6);
    }

    private static void bestCall() {
        KIT.sentence("BEST what -1: the WANT, 0 ..: the side of that QUARREL; GAP if there is no JOINING; -2 if SPENT; "
                + "else GAP if none is JOINED, or there is no such QUARREL (WANT may be any of these, too).");
        CakePapers x = Kit.with(Kit.steps("a v p 1 1", "c v p 1 1"), Kit.steps("a v p 1 1", "b v a 1 1", "c v p 2 1"),
                Kit.steps("c v p 3 1"), Kit.steps("a v p 1 1", "c v p 4 1"));
        for (int what : new int[] {-1, 0, Kit.LEAST_INT, Kit.MOST_INT}) {
            KIT.due("no JOINING", x.best(what), CakePapers.GAP);
        }
        x.join(0, 1, 2);
        for (int what : new int[] {-2, -1, 0, 1}) {
            KIT.due("none is JOINED", x.best(what), CakePapers.GAP);
        }
        x.join(0, 1, 3);
        best(x, "0 - 1000 * 1000", CakePapers.GAP, 0);
        best(x, "0 - 2", -2, 0);
        best(x, "0 - 1", -1, 0);
        for (int what : new int[] {1, -2, 48, 64, Kit.LEAST_INT, Kit.MOST_INT}) {
            KIT.due("no QUARREL " + what, x.best(what), CakePapers.GAP);
        }
        KIT.due("nothing is SETTLED by it", x.about(3), 0);
        x.settle(0, 2);
        best(x, "much", 6, 1);
        KIT.due("nor anew", x.quarrel(0, 2), 2);
        KIT.due("nor is a PAPER made", x.about(0), 4);
        // asked again after each thing that may alter it
        x.join(0, 3, 3);
        KIT.due("another JOINING", x.best(-1), 5);
        x.image(0);
        x.join(0, 0, 0);
        KIT.due("another JOINING", x.best(-1), 2);
        x.back(0);
        KIT.due("back", x.best(-1), 5);
        Kit.want(x, "want steps;");
        KIT.due("another WANT", x.best(-1), 2);
        x.tear(3);
        KIT.due("torn", x.best(-1), CakePapers.GAP);
    }

    private static void leftCall() {
        KIT.sentence("Of the JOINING what 0: STEPS LEFT by both, 1: those of BASE that neither changed, 2: PUT by both; "
                + "NONE without one, or for another what.");
        CakePapers x = Kit.with(
                Kit.steps("a v p q 1 1", "b v p 1 1", "c v p 1 1", "d v p 1 1", "e v p 1 1", "f v p 1 1"),
                Kit.steps("a v q p 1 1", "b v p 2 1", "c v p 1 1", "e v p 1 1", "m v p 1 1", "n v p 1 1"),
                Kit.steps("n v p 1 1", "a v p q 1 1", "b v p 1 1", "c v p 1 2", "m w p 1 1", "o v p 1 1"));
        for (int what = -1; what < 4; what++) {
            KIT.due("without one", x.left(what), -1);
        }
        x.join(0, 1, 2);
        KIT.due("d and f", x.left(0), 2);
        KIT.due("a alone: b, c are changed by one, e is OUT by one", x.left(1), 1);
        KIT.due("m and n", x.left(2), 2);
        for (int what : new int[] {-1, 3, Kit.LEAST_INT, Kit.MOST_INT}) {
            KIT.due("another what " + what, x.left(what), -1);
        }
        int[] due = {0, 6, 0};
        x.join(0, 0, 0);
        for (int what = 0; what < 3; what++) {
            KIT.due("of itself", x.left(what), due[what]);
        }
        for (int none : NO_PAPERS) {
            x.join(0, 0, none);
            KIT.due("the one before", x.left(1), 6);
        }
        // a larger JOINING ahead leaves nothing behind
        CakePapers y = Kit.with(Kit.many('a', 6, "v p 1 1"), Kit.many('a', 3, "v p 1 1"));
        y.join(0, 1, 1);
        KIT.due("three LEFT", y.left(0), 3);
        y.join(1, 1, 1);
        KIT.due("none LEFT", y.left(0), 0);
        KIT.due("three neither changed", y.left(1), 3);
        x.tear(5);
        KIT.due("none torn", x.left(1), 6);
        x.tear(2);
        KIT.due("torn", x.left(1), -1);
    }
}
