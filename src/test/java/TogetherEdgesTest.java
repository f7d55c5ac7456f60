/** Each sentence of the document that names a boundary of RUIN, LAWS, THREE by twos, or LEANS. */
public final class TogetherEdgesTest {
    private static final Kit KIT = new Kit();
    private static final int[] NO_PAPERS = {-1, 8, Kit.LEAST_INT, Kit.MOST_INT};

    public static void main(String[] args) {
        ruinPairs();
        ruinAlone();
        ruinDoesNothing();
        ruinNumbers();
        ruinCall();
        lawOnceMore();
        lawEitherWay();
        lawByTwos();
        lawCall();
        threeByTwos();
        threeCall();
        leansInARow();
        leansFirst();
        leansStays();
        leansBehindOthers();
        leansCall();
        KIT.finish("TogetherEdgesTest");
    }

    private static void ruin(CakePapers x, int pairs, int first) {
        KIT.due("pairs", x.ruin(0, 1, 2, 0), pairs);
        KIT.due("the first", x.ruin(0, 1, 2, 1), first);
    }

    private static void ruinPairs() {
        KIT.sentence("RUIN of two PAPERS from a BASE: pairs of a CHANGE of the one and a CHANGE of the other, "
                + "each done alone without a BREACH, both together (those of the one first, then the other's) with one.");
        // a NEED lost: b of a, and a OUT
        ruin(Kit.with(Kit.steps("a v p 1 1", "b v p 1 1"), Kit.steps("a v p 1 1", "b v a 1 1"), Kit.steps("b v p 1 1")), 1, 0);
        // the same by PUT
        ruin(Kit.with(Kit.steps("a v p 1 1"), Kit.steps("a v p 1 1", "b v a 1 1"), ""), 1, 0);
        // a ring: a of b, and b of a
        ruin(Kit.with(Kit.steps("a v p 1 1", "b v p 1 1"), Kit.steps("a v p 1 1", "b v a 1 1"), Kit.steps("b v p 1 1", "a v b 1 1")),
                1, 0);
        // a 13th STEP
        String eleven = Kit.many('a', 11, "v egg 1 1");
        ruin(Kit.with(eleven, eleven + Kit.steps("y v egg 1 1"), eleven + Kit.steps("z v egg 1 1")), 1, 0);
        String ten = Kit.many('a', 10, "v egg 1 1");
        ruin(Kit.with(ten, ten + Kit.steps("y v egg 1 1"), ten + Kit.steps("z v egg 1 1")), 0, -1);
        // both ALTERED the NEEDS of b: those of the other, done later, count
        ruin(Kit.with(Kit.steps("a v p 1 1", "b v p 1 1"), Kit.steps("b v q 1 1"), Kit.steps("a v p 1 1", "b v a 1 1")), 1, 0);
        ruin(Kit.with(Kit.steps("a v p 1 1", "b v a 1 1"), Kit.steps("a v p 1 1", "b v q 1 1"), Kit.steps("b v r 1 1")), 0, -1);
    }

    private static void ruinAlone() {
        // OUT of a alone is a BREACH, as b NEEDS it; so it is in no pair
        CakePapers x = Kit.with(Kit.steps("a v p 1 1", "b v a 1 1"), Kit.steps("b v q 1 1"), Kit.steps("a v p 1 1", "b v a 1 1", "c v a 1 1"));
        KIT.due("OUT a", x.does(0, 1, 1), -1);
        KIT.due("b of q", x.does(0, 1, 2), 2);
        ruin(x, 0, -1);
        KIT.due("turned", x.ruin(0, 2, 1, 0), 0);
        // a BASE that is a ring by itself: nothing done alone is without a BREACH
        CakePapers ring = Kit.with(Kit.steps("a v b 1 1", "b v a 1 1"), Kit.steps("a v b 2 1", "b v a 1 1"), Kit.steps("a v b 1 2", "b v a 1 1"));
        ruin(ring, 0, -1);
    }

    private static void ruinDoesNothing() {
        KIT.sentence("PUT: the STEP comes behind all (nothing, if one there MAKES that already).");
        String eleven = Kit.many('a', 11, "v egg 1 1");
        // z PUT by both is one STEP: twelve
        ruin(Kit.with(eleven, eleven + Kit.steps("z v egg 1 1"), eleven + Kit.steps("z w egg 2 2")), 0, -1);
        // the other's z of y would lose its NEED, but the one's z is there already
        CakePapers x = Kit.with(Kit.steps("y v p 1 1", "x v p 1 1"), Kit.steps("y v p 1 1", "x v p 1 1", "z v p 1 1"),
                Kit.steps("y v p 1 1", "z v y 1 1"));
        ruin(x, 0, -1);
        KIT.sentence("One of a STEP that is not there does nothing.");
        // OUT a by both; a ALTERED by one and OUT by the other, either way round
        ruin(Kit.with(Kit.steps("a v p 1 1", "b v p 1 1"), Kit.steps("b v p 1 1"), Kit.steps("b v p 1 1")), 0, -1);
        ruin(Kit.with(Kit.steps("a v p 1 1", "b v p 1 1"), Kit.steps("b v p 1 1"), Kit.steps("a w b 2 2", "b v p 1 1")), 0, -1);
        ruin(Kit.with(Kit.steps("b v p 1 1", "a v p 1 1"), Kit.steps("b v p 1 1", "a v b 2 2"), Kit.steps("b v p 1 1")), 0, -1);
        // a of b is gone with a: so b may go, too, but not alone with a there
        ruin(Kit.with(Kit.steps("b v p 1 1", "a v b 1 1"), Kit.steps("b v p 1 1"), ""), 0, -1);
    }

    private static void ruinNumbers() {
        KIT.sentence("How many pairs are RUIN (what 0), the first (1): 100 * the CHANGE of the one + that of the other");
        String base = Kit.many('a', 11, "v egg 1 1");
        // the one: VERB of each, then k of j as the 12th; the other: much of each but j, that is OUT, the tenth
        String one = Kit.many('a', 10, "w egg 1 1") + Kit.steps("k w j 1 1");
        String other = Kit.many('a', 9, "v egg 2 1") + Kit.steps("k v egg 2 1");
        CakePapers x = Kit.with(base, one, other);
        KIT.due("CHANGES of the one", x.changes(0, 1), 12);
        KIT.due("CHANGES of the other", x.changes(0, 2), 11);
        ruin(x, 1, 1109);
        KIT.due("turned", x.ruin(0, 2, 1, 1), 911);
        // several: 48 CHANGES of the one, of which four NEEDS lose what is OUT
        String rows = Kit.many('a', 12, "v egg 1 1");
        String altered = Kit.many('a', 8, "w oil 2 2") + Kit.many('i', 4, "w a 2 2");
        CakePapers y = Kit.with(rows, altered, Kit.many('b', 11, "v egg 1 1"));
        KIT.due("48", y.changes(0, 1), 48);
        ruin(y, 4, 3500);
        KIT.due("turned pairs", y.ruin(0, 2, 1, 0), 4);
        KIT.due("turned first", y.ruin(0, 2, 1, 1), 35);
        ruinBehindOthers();
    }

    /** What a call before looked at is no CHANGE of this one: OUT a would ruin what PUT c NEEDS. */
    private static void ruinBehindOthers() {
        CakePapers x = Kit.with(Kit.steps("a v p 1 1", "b v p 1 1"), Kit.steps("a v p 1 1", "b v p 1 1", "c v a 1 1"),
                Kit.steps("a v p 1 1", "b v p 2 1"), "", Kit.steps("a w q 3 3", "b w q 3 3"));
        KIT.due("many CHANGES", x.changes(0, 4), 8);
        KIT.due("nothing leans", x.leans(0, 4, 7), 0);
        ruin(x, 0, -1);
        KIT.due("a pair", x.ruin(0, 1, 3, 0), 1);
        x.leans(0, 4, 7);
        ruin(x, 0, -1);
        x.does(0, 4, 255);
        KIT.due("one without CHANGES", x.ruin(0, 1, 0, 0), 0);
    }

    private static void ruinCall() {
        KIT.sentence("NONE if one is none, there is none (1), or for another what.");
        CakePapers x = Kit.with(Kit.steps("a v p 1 1"), Kit.steps("a v p 1 1", "b v a 1 1"), "");
        for (int none : NO_PAPERS) {
            for (int what = 0; what < 2; what++) {
                KIT.due("no BASE " + none, x.ruin(none, 1, 2, what), -1);
                KIT.due("no one " + none, x.ruin(0, none, 2, what), -1);
                KIT.due("no other " + none, x.ruin(0, 1, none, what), -1);
            }
        }
        KIT.due("one beyond", x.ruin(0, 1, 3, 0), -1);
        KIT.due("there is none", x.ruin(0, 0, 0, 1), -1);
        KIT.due("none of them", x.ruin(0, 0, 0, 0), 0);
        for (int what : new int[] {-1, 2, Kit.LEAST_INT, Kit.MOST_INT}) {
            KIT.due("another what " + what, x.ruin(0, 1, 2, what), -1);
        }
    }

    private static void lawOnceMore() {
        KIT.sentence("0: a JOINING of BASE, the one, and the one again makes what the one makes");
        CakePapers x = Kit.with(
                "",
                Kit.many('a', 12, "v egg 1 1"),
                Kit.many('m', 12, "v egg 1 1"),
                Kit.steps("a v p 1 1", "b v a 1 1"),
                // a RAW, and behind: when joined it is MADE
                Kit.steps("b v a 1 1", "a v p 1 1"),
                // a is OUT, and b NEEDS it as BASE's
                Kit.steps("b v a 1 1"),
                Kit.steps("a v b 1 1", "b v a 1 1"));
        for (int p = 0; p < 4; p++) {
            for (int q = 0; q < 4; q++) {
                KIT.due("holds of " + p + " and " + q, x.law(0, p, q, 0, 0), 1);
            }
        }
        KIT.due("another cake", x.law(0, 0, 4, 0, 0), 0);
        KIT.due("another cake, itself the BASE", x.law(0, 4, 4, 0, 0), 0);
        KIT.due("a BREACH: b is BASE's, a is OUT", x.law(0, 3, 5, 0, 0), 0);
        KIT.due("b PUT, a RAW there", x.law(0, 0, 5, 0, 0), 1);
        KIT.due("a ring", x.law(0, 0, 6, 0, 0), 0);
    }

    private static void lawEitherWay() {
        KIT.sentence("1: either way round the same");
        KIT.sentence("HOLDS: both sides have no QUARRELS and no BREACH and make the SAME, or both have some.");
        CakePapers x = Kit.with(
                Kit.steps("a v p 1 1", "b v p 1 1"),
                Kit.steps("a v p 2 1", "b v p 1 1"),
                Kit.steps("a v p 3 1", "b v p 1 1"),
                Kit.steps("b v p 1 1"),
                Kit.steps("a v p 1 1", "b v a 1 1"),
                Kit.steps("b v p 1 1", "a v b 1 1"));
        KIT.due("no QUARRELS", x.law(1, 0, 1, 0, 0), 1);
        KIT.due("both have a QUARREL", x.law(1, 0, 1, 2, 0), 1);
        KIT.due("both have a QUARREL of being there", x.law(1, 0, 1, 3, 0), 1);
        KIT.due("both are a BREACH", x.law(1, 0, 3, 4, 0), 1);
        KIT.due("both are a ring", x.law(1, 0, 4, 5, 0), 1);
        // c PUT by both alike, a MADE for it in the one alone; a is OUT by the other
        CakePapers y = Kit.with(Kit.steps("a v p 1 1"), Kit.steps("a v p 1 1", "c v a 1 1"), Kit.steps("c v a 1 1"));
        KIT.due("a BREACH one way round", y.law(1, 0, 1, 2, 0), 0);
        KIT.due("turned", y.law(1, 0, 2, 1, 0), 0);
    }

    private static void lawByTwos() {
        KIT.sentence("2: three by twos: the first two, then the third, and the last two, then the first.");
        CakePapers x = Kit.with(
                Kit.steps("a v p 1 1", "b v p 1 1", "c v p 1 1"),
                Kit.steps("a v p 2 1", "b v p 1 1", "c v p 1 1"),
                Kit.steps("a v p 1 1", "b v p 2 1", "c v p 1 1"),
                Kit.steps("a v p 1 1", "b v p 1 1", "c v p 2 1"),
                Kit.steps("a v p 3 1", "b v p 1 1", "c v p 1 1"));
        int[] papers = {0, 1, 2, 3, 4};
        for (int p : papers) {
            for (int q : papers) {
                for (int r : papers) {
                    KIT.due("law 2 of " + p + " " + q + " " + r, x.law(2, 0, p, q, r), 1);
                }
            }
        }
        // twelve STEPS at most: seven PUT by the first and the third, none by the second, are a BREACH by both ways
        String seven = Kit.many('a', 7, "v egg 1 1");
        CakePapers y = Kit.with("", seven, Kit.many('n', 7, "v egg 1 1"), Kit.many('h', 5, "v egg 1 1"));
        KIT.due("14 by both", y.law(2, 0, 1, 0, 2), 1);
        KIT.due("12 by both", y.law(2, 0, 1, 0, 3), 1);
        // c PUT alike by all three: a is MADE for it in the first, and OUT by the others
        CakePapers z = Kit.with(Kit.steps("a v p 1 1"), Kit.steps("a v p 1 1", "c v a 1 1"), Kit.steps("c v a 1 1"));
        KIT.due("a BREACH of the first two, none of the last two", z.law(2, 0, 1, 2, 2), 0);
        KIT.due("a BREACH of neither two", z.law(2, 0, 2, 2, 2), 1);
    }

    private static void lawCall() {
        KIT.sentence("1 if a LAW HOLDS (0: of base and one; 1: and other; 2: and third), else 0; "
                + "NONE if one is none that it asks of, or for another law.");
        CakePapers x = Kit.with(Kit.steps("a v p 1 1"), Kit.steps("a v p 2 1"));
        for (int none : NO_PAPERS) {
            for (int law = 0; law < 3; law++) {
                KIT.due("no BASE " + none, x.law(law, none, 1, 0, 0), -1);
                KIT.due("no one " + none, x.law(law, 0, none, 0, 0), -1);
                KIT.due("no other " + none, x.law(law, 0, 1, none, 0), law == 0 ? 1 : -1);
                KIT.due("no third " + none, x.law(law, 0, 1, 0, none), law == 2 ? -1 : 1);
            }
        }
        KIT.due("one beyond", x.law(2, 0, 1, 0, 2), -1);
        KIT.due("neither other nor third", x.law(0, 0, 1, -1, -1), 1);
        for (int law : new int[] {-1, 3, Kit.LEAST_INT, Kit.MOST_INT}) {
            KIT.due("another law " + law, x.law(law, 0, 1, 0, 0), -1);
        }
        x.join(0, 1, 0);
        x.law(2, 0, 0, 0, 0);
        KIT.due("the JOINING is as it was", x.left(1), 0);
        KIT.due("and the PAPERS", x.about(0), 2);
    }

    private static void three(CakePapers x, int one, int other, int third, int... due) {
        for (int way = 0; way < 3; way++) {
            KIT.due("way " + way, x.three(0, one, other, third, way), due[way]);
        }
    }

    private static void threeByTwos() {
        KIT.sentence("THREE by twos: QUARRELS of two and then (settled by 0) of what is JOINED with the third, together, "
                + "for 0: first and second ahead, 1: first and third, 2: second and third "
                + "(GAP if the two, settled by 0, are a BREACH).");
        CakePapers x = Kit.with(
                Kit.steps("a v p 1 1", "b v p 1 1"),
                Kit.steps("a v p 2 1", "b v p 1 1"),
                Kit.steps("a v p 3 1", "b v p 1 1"),
                Kit.steps("b v p 1 1"),
                Kit.steps("a v p 1 1", "b v a 1 1"),
                Kit.steps("b v p 1 1", "a v b 1 1"));
        three(x, 0, 0, 0, 0, 0, 0);
        // 2 against 3, then 2 against 3 or against 2
        three(x, 1, 2, 2, 2, 2, 1);
        three(x, 1, 2, 1, 1, 1, 2);
        three(x, 1, 1, 2, 1, 1, 1);
        // a BREACH of just one of the three twos
        three(x, 3, 4, 0, CakePapers.GAP, 0, 0);
        three(x, 3, 0, 4, 0, CakePapers.GAP, 0);
        three(x, 0, 3, 4, 0, 0, CakePapers.GAP);
        three(x, 4, 5, 0, CakePapers.GAP, 0, 0);
        // a BREACH with the third is none here: b of a JOINED first, a OUT then
        three(x, 4, 0, 3, 0, CakePapers.GAP, 0);
        // a ALTERED against a OUT: settled by 0 it is as in the first of the two
        three(x, 1, 3, 1, 1, 1, 2);
        // by 0, whatever was looked at before: by 1 there would be no second QUARREL with the third
        x.join(0, 1, 2);
        x.quarrel(0, 3);
        KIT.due("behind quarrel", x.three(0, 1, 2, 2, 0), 2);
        Kit.want(x, "want much;");
        KIT.due("BEST by 1", x.best(0), 1);
        KIT.due("behind best", x.three(0, 1, 2, 2, 0), 2);
        x.settle(0, 1);
        KIT.due("behind settle", x.three(0, 1, 2, 2, 0), 2);
        CakePapers y = Kit.with(Kit.many('a', 12, "v egg 1 1"), Kit.many('a', 12, "w oil 2 2"), Kit.many('a', 12, "x fat 3 3"),
                Kit.many('a', 12, "y rum 4 4"));
        three(y, 1, 2, 3, 96, 96, 96);
    }

    private static void threeCall() {
        KIT.sentence("THREE by twos; NONE if one is none, or for another way.");
        CakePapers x = Kit.with(Kit.steps("a v p 1 1"), Kit.steps("a v p 2 1"));
        for (int none : NO_PAPERS) {
            for (int way = 0; way < 3; way++) {
                KIT.due("no BASE " + none, x.three(none, 0, 0, 0, way), -1);
                KIT.due("no one " + none, x.three(0, none, 0, 0, way), -1);
                KIT.due("no other " + none, x.three(0, 0, none, 0, way), -1);
                KIT.due("no third " + none, x.three(0, 0, 0, none, way), -1);
            }
        }
        KIT.due("one beyond", x.three(0, 0, 0, 2, 0), -1);
        for (int way : new int[] {-1, 3, Kit.LEAST_INT, Kit.MOST_INT}) {
            KIT.due("another way " + way, x.three(0, 1, 1, 1, way), -1);
        }
        x.join(0, 1, 0);
        x.three(0, 0, 0, 0, 0);
        KIT.due("the JOINING is as it was", x.left(1), 0);
        KIT.due("and the PAPERS", x.about(0), 2);
    }

    private static void leansInARow() {
        KIT.sentence("LEANS on a CHANGE: all CHANGES from BASE to a PAPER but it done; as long as there is a BREACH, "
                + "the first CHANGE (of those still done, by numbers) that PUT, or ALTERED in NEEDS, the first STEP (in order as done) "
                + "at which a NEED is RAW that was MADE goes, too");
        String[] lines = new String[12];
        for (int i = 0; i < 12; i++) {
            char name = (char) ('a' + i);
            lines[i] = name + " v " + (i == 0 ? "egg" : Character.toString((char) (name - 1))) + " 1 1";
        }
        CakePapers x = Kit.with("", Kit.steps(lines), Kit.many('a', 12, "v oil 1 1"));
        for (int i = 0; i < 12; i++) {
            KIT.due("a row PUT, without " + i, x.leans(0, 1, i), 11 - i);
            KIT.due("none leans on what stays", x.leans(2, 1, i), 0);
            KIT.due("nor on OUT", x.leans(1, 0, i), 0);
        }
        // b ALTERED in NEEDS to c, PUT: that goes, its VERB does not
        CakePapers y = Kit.with(Kit.steps("b v p 1 1"), Kit.steps("c v p 1 1", "b w c 2 2"));
        KIT.due("CHANGES", y.changes(0, 1), 5);
        int[] due = {0, 0, 0, 0, 1};
        for (int i = 0; i < 5; i++) {
            KIT.due("leans on " + i, y.leans(0, 1, i), due[i]);
        }
    }

    private static void leansFirst() {
        // without z: NEEDS of a and of b, and d PUT, lose it; then e, that NEEDS d
        CakePapers x = Kit.with(Kit.steps("a v p 1 1", "b v p 1 1", "c v p 1 1"),
                Kit.steps("z v p 1 1", "a v z 1 1", "b v z 1 1", "d v z 1 1", "c v p 2 1", "e v d c 1 1"));
        // 0 NEEDS of a, 1 NEEDS of b, 2 much of c, 3 PUT z, 4 PUT d, 5 PUT e
        int[] due = {0, 0, 0, 4, 1, 0};
        for (int i = 0; i < due.length; i++) {
            KIT.due("leans on " + i, x.leans(0, 1, i), due[i]);
        }
        // the first to lose its NEED is of BASE and not ALTERED: it stays so, though another one behind would go
        CakePapers y = Kit.with(Kit.steps("a v p 1 1", "b v a 1 1", "c v p 1 1"), Kit.steps("d v p 1 1", "b v p 1 1", "c v d 1 1"));
        // 0 OUT a, 1 NEEDS of b, 2 NEEDS of c, 3 PUT d
        KIT.due("without NEEDS of b", y.leans(0, 1, 1), 0);
        KIT.due("without PUT d", y.leans(0, 1, 3), 1);
        // c is ahead of b in the order as done: c goes, then b stays so
        CakePapers z = Kit.with(Kit.steps("c v p 1 1", "a v p 1 1", "b v a 1 1"), Kit.steps("b v a 2 1", "d v p 1 1", "c v d 1 1"));
        // 0 NEEDS of c, 1 OUT a, 2 much of b, 3 PUT d: b lost a from the first
        KIT.due("without PUT d: c goes, b's own NEED is lost", z.leans(0, 1, 3), 1);
        KIT.due("without OUT a", z.leans(0, 1, 1), 0);
        KIT.due("without much of b: none such", z.leans(0, 1, 2), 0);
    }

    private static void leansStays() {
        KIT.sentence("if there is none such, or the BREACH is another one, it stays so: how many went.");
        // without OUT a: thirteen
        String eleven = Kit.many('b', 11, "v egg 1 1");
        CakePapers many = Kit.with(Kit.steps("a v egg 1 1") + eleven, eleven + Kit.steps("z v egg 1 1"));
        KIT.due("thirteen", many.leans(0, 1, 0), 0);
        KIT.due("without PUT z", many.leans(0, 1, 1), 0);
        // without NEEDS of b: a ring
        CakePapers ring = Kit.with(Kit.steps("a v p 1 1", "b v a 1 1"), Kit.steps("b v q 1 1", "a v b 1 1"));
        KIT.due("a ring", ring.leans(0, 1, 1), 0);
        KIT.due("none", ring.leans(0, 1, 0), 0);
        // a NEED lost, and when that is gone a ring
        CakePapers both = Kit.with(Kit.steps("a v p 1 1", "b v a 1 1", "c v p 1 1"),
                Kit.steps("z v p 1 1", "b v q z 1 1", "a v b 1 1", "c v p 1 1"));
        // 0 NEEDS of a, 1 NEEDS of b, 2 PUT z; without z the NEEDS of b go, and there is a ring
        KIT.due("then a ring", both.leans(0, 1, 2), 1);
        // a BASE that is no good by itself, and nothing else done
        CakePapers bad = Kit.with(Kit.steps("a v b 1 1", "b v a 1 1"), Kit.steps("a v b 2 1", "b v a 1 1"));
        KIT.due("a ring of BASE", bad.leans(0, 1, 0), 0);
    }

    /** b lost a, and none of its CHANGES gave it NEEDS, though one of the call before did. */
    private static void leansBehindOthers() {
        CakePapers x = Kit.with(Kit.steps("a v p 1 1", "b v a 1 1"), Kit.steps("b v a 2 1"), Kit.steps("b v q 2 1"));
        KIT.due("OUT a, much of b, NEEDS of b", x.changes(0, 2), 3);
        KIT.due("OUT a, much of b", x.changes(0, 1), 2);
        KIT.due("none leans on OUT", x.leans(0, 2, 0), 0);
        KIT.due("none such, it stays so", x.leans(0, 1, 1), 0);
        KIT.due("all of them done", x.does(0, 2, 7), 1);
        KIT.due("none such still", x.leans(0, 1, 1), 0);
    }

    private static void leansCall() {
        KIT.sentence("LEANS on the i-th CHANGE; NONE if one can't be.");
        CakePapers x = Kit.with("", Kit.many('a', 12, "v egg 1 1"), Kit.many('a', 12, "w oil 2 2"));
        KIT.due("the first", x.leans(1, 2, 0), 0);
        KIT.due("the last", x.leans(1, 2, 47), 0);
        for (int i : new int[] {-1, 48, 49, 60, Kit.LEAST_INT, Kit.MOST_INT}) {
            KIT.due("no CHANGE " + i, x.leans(1, 2, i), -1);
        }
        KIT.due("no CHANGE at all", x.leans(1, 1, 0), -1);
        for (int none : NO_PAPERS) {
            KIT.due("no BASE " + none, x.leans(none, 1, 0), -1);
            KIT.due("no PAPER " + none, x.leans(1, none, 0), -1);
        }
        KIT.due("one beyond", x.leans(0, 3, 0), -1);
    }
}
