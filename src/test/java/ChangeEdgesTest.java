/** Each sentence of the document that names a boundary of CHANGES, SLIPS, LEAST, or CHANGES done. */
public final class ChangeEdgesTest {
    private static final Kit KIT = new Kit();
    private static final int[] NO_PAPERS = {-1, 8, Kit.LEAST_INT, Kit.MOST_INT};

    public static void main(String[] args) {
        kinds();
        needsAsSets();
        most();
        slipNumbers();
        slipVerbs();
        noSlips();
        changesCall();
        changeCall();
        leastWeights();
        leastMatched();
        leastCall();
        oneDone();
        someDone();
        order();
        tooMany();
        lostOfFirst();
        lostOfSecond();
        lostOfAltered();
        doesCall();
        KIT.finish("ChangeEdgesTest");
    }

    private static void change(CakePapers x, int a, int b, int i, int kind, int step) {
        KIT.due("kind of " + i, x.change(a, b, i, 0), kind);
        KIT.due("STEP of " + i, x.change(a, b, i, 1), step);
    }

    private static void kinds() {
        KIT.sentence("STEPS of the first in order: OUT (kind 0), if no STEP of the second MAKES that; else, each by itself, "
                + "ALTERED in VERB (1), much (2), long (3), NEEDS (4; as sets); then STEPS of the second that are PUT (5), in order.");
        CakePapers x = Kit.with(
                Kit.steps("a v p 1 1", "b v p 1 1", "c v p 1 1", "d v p 1 1"),
                Kit.steps("y v p 1 1", "d w q 2 2", "z v p 1 1", "b v p 1 1", "a v p 0 1"));
        int[][] due = {{2, 0}, {0, 2}, {1, 3}, {2, 3}, {3, 3}, {4, 3}, {5, 0}, {5, 2}};
        KIT.due("changes", x.changes(0, 1), due.length);
        for (int i = 0; i < due.length; i++) {
            change(x, 0, 1, i, due[i][0], due[i][1]);
        }
        int[][] turned = {{0, 0}, {1, 1}, {2, 1}, {3, 1}, {4, 1}, {0, 2}, {2, 4}, {5, 2}};
        KIT.due("turned", x.changes(1, 0), turned.length);
        for (int i = 0; i < turned.length; i++) {
            change(x, 1, 0, i, turned[i][0], turned[i][1]);
        }
    }

    private static void needsAsSets() {
        KIT.sentence("NEEDS (4; as sets)");
        CakePapers x = Kit.with(Kit.steps("a v p q r s 1 1"), Kit.steps("a v s q r p 1 1"), Kit.steps("a v p q r 1 1"),
                Kit.steps("a v p q r t 1 1"), Kit.steps("a v p 1 1"));
        int[] due = {0, 0, 1, 1, 1};
        for (int p = 0; p < due.length; p++) {
            KIT.due("to " + p, x.changes(0, p), due[p]);
            KIT.due("from " + p, x.changes(p, 0), due[p]);
            KIT.due("kind of that to " + p, x.change(0, p, 0, 0), due[p] == 0 ? -1 : 4);
        }
        // by NAME, be they MADE or RAW
        CakePapers y = Kit.with(Kit.steps("a v p 1 1", "b v a 1 1"), Kit.steps("b v a 1 1", "a v p 1 1"));
        KIT.due("MADE in one, RAW in the other", y.changes(0, 1), 0);
    }

    private static void most() {
        KIT.sentence("How many CHANGES");
        CakePapers x = Kit.with("", Kit.many('a', 12, "v egg 1 1"), Kit.many('a', 12, "w oil 2 2"), Kit.many('m', 12, "v egg 1 1"));
        KIT.due("none of none", x.changes(0, 0), 0);
        KIT.due("all PUT", x.changes(0, 1), 12);
        KIT.due("all OUT", x.changes(1, 0), 12);
        KIT.due("all ALTERED", x.changes(1, 2), 48);
        KIT.due("all OUT and as many PUT", x.changes(1, 3), 24);
        change(x, 1, 2, 47, 4, 11);
        change(x, 1, 3, 11, 0, 11);
        change(x, 1, 3, 12, 5, 0);
        change(x, 1, 3, 23, 5, 11);
    }

    private static void slip(String one, String other, int due) {
        CakePapers x = Kit.with("make a by " + one + ";", "make a by " + other + ";");
        KIT.due(one + " to " + other, x.changes(0, 1), 1);
        KIT.due(one + " to " + other + " is a SLIP", x.change(0, 1, 0, 2), due);
        KIT.due(other + " to " + one + " is a SLIP", x.change(1, 0, 0, 2), due);
    }

    private static void slipNumbers() {
        KIT.sentence("SLIP: ALTERED much or long, one of which becomes the other (written without 0 ahead; 0 is one digit) "
                + "by one digit put in, left out or altered, or two neighbours changed about");
        int[][] due = {
            // 0 is one digit
            {0, 1, 1}, {0, 9, 1}, {0, 10, 1}, {0, 50, 1}, {0, 11, 0}, {0, 100, 0}, {0, 101, 0},
            // written without 0 ahead
            {5, 105, 0}, {5, 15, 1}, {5, 50, 1}, {5, 500, 0}, {12, 102, 1}, {12, 120, 1}, {12, 112, 1}, {1, 100, 0}, {10, 100, 1},
            {7, 10, 0}, {9, 10, 0}, {99, 100, 0}, {999, 99, 1}, {999, 9, 0},
            // altered: one, two, three
            {123, 923, 1}, {123, 193, 1}, {123, 129, 1}, {123, 993, 0}, {123, 199, 0}, {123, 929, 0}, {123, 456, 0}, {3, 4, 1},
            // neighbours, and others, changed about
            {12, 21, 1}, {123, 213, 1}, {123, 132, 1}, {123, 321, 0}, {123, 312, 0}, {10, 1, 1}, {100, 10, 1}, {120, 210, 1},
            // a digit left out ahead, in between, behind; another one altered besides
            {123, 23, 1}, {123, 13, 1}, {123, 12, 1}, {123, 21, 0}, {123, 14, 0}, {123, 31, 0}, {112, 12, 1}, {122, 12, 1}};
        for (int[] d : due) {
            slip("v of p much " + d[0] + " long 1", "v of p much " + d[1] + " long 1", d[2]);
            slip("v of p much 1 long " + d[0], "v of p much 1 long " + d[1], d[2]);
        }
    }

    private static void slipVerbs() {
        KIT.sentence("ALTERED VERB, one of which becomes the other by one letter likewise.");
        String[] due = {"a b 1", "a ab 1", "a ba 1", "a bc 0", "ab ba 1", "abc acb 1", "abc bac 1", "abc cba 0", "abc bca 0",
            "aa aaa 1", "aa aaaa 0", "beat boat 1", "beat bot 0", "beat bet 1", "beat eat 1", "beat bea 1", "beat be 0",
            "abcdefgh abcdefgx 1", "abcdefgh xbcdefgh 1", "abcdefgh abcdefhg 1", "abcdefgh bacdefgh 1", "abcdefgh bacdefhg 0",
            "abcdefgh abcdefg 1", "abcdefgh bcdefgh 1", "abcdefgh bcdefghi 0", "abcdefgh abcdeff 0", "abcdefgh xbcdefgx 0"};
        for (String line : due) {
            String[] w = line.split(" ");
            slip(w[0] + " of p much 1 long 1", w[1] + " of p much 1 long 1", Integer.parseInt(w[2]));
        }
        // as called
        CakePapers x = Kit.with("call a beat;make m by a of p much 1 long 1;", "call zzzz beats;make m by zzzz of p much 1 long 1;");
        KIT.due("as called", x.change(0, 1, 0, 2), 1);
    }

    private static void noSlips() {
        KIT.sentence("2: 1 if it is a SLIP, else 0");
        slip("v of p much 1 long 1", "v of q much 1 long 1", 0);
        slip("v of p much 1 long 1", "v of p q much 1 long 1", 0);
        CakePapers x = Kit.with(Kit.steps("a v p 1 1"), Kit.steps("b v p 1 1"));
        KIT.due("OUT", x.change(0, 1, 0, 2), 0);
        KIT.due("PUT", x.change(0, 1, 1, 2), 0);
    }

    private static void changesCall() {
        KIT.sentence("How many CHANGES; NONE if one is none.");
        CakePapers x = Kit.with("", Kit.steps("a v p 1 1"));
        KIT.due("of itself", x.changes(1, 1), 0);
        for (int none : NO_PAPERS) {
            KIT.due("first " + none, x.changes(none, 1), -1);
            KIT.due("second " + none, x.changes(1, none), -1);
        }
        KIT.due("one beyond", x.changes(1, 2), -1);
    }

    private static void changeCall() {
        KIT.sentence("Of the i-th CHANGE (from 0 on) what 0: its kind, 1: its STEP (of the first PAPER; of a PUT one: of the second), "
                + "2: 1 if it is a SLIP, else 0; NONE if there is none such, or for another what.");
        CakePapers x = Kit.with("", Kit.many('a', 12, "v egg 1 1"), Kit.many('a', 12, "w oil 2 2"));
        for (int what = 0; what < 3; what++) {
            for (int i : new int[] {-1, 48, 49, 60, Kit.LEAST_INT, Kit.MOST_INT}) {
                KIT.due("no CHANGE " + i, x.change(1, 2, i, what), -1);
            }
            KIT.due("none at all", x.change(1, 1, 0, what), -1);
            for (int none : NO_PAPERS) {
                KIT.due("no first " + none, x.change(none, 1, 0, what), -1);
                KIT.due("no second " + none, x.change(1, none, 0, what), -1);
            }
            KIT.due("one beyond", x.change(0, 3, 0, what), -1);
        }
        for (int what : new int[] {-1, 3, Kit.LEAST_INT, Kit.MOST_INT}) {
            KIT.due("another what " + what, x.change(0, 1, 0, what), -1);
        }
        change(x, 0, 1, 11, 5, 11);
        change(x, 1, 0, 11, 0, 11);
        change(x, 1, 2, 0, 1, 0);
    }

    private static void leastWeights() {
        KIT.sentence("3 for each not matched; of a match 1 if they MAKE another thing, 2 for another VERB, 1 for other much, "
                + "1 for other long, 1 for each NEED (by NAME) that only one of both has.");
        String[] due = {"a v p 1 1:0", "b v p 1 1:1", "a w p 1 1:2", "a v p 2 1:1", "a v p 1 2:1", "a v q 1 1:2", "a v p q 1 1:1",
            "a v p q r s 1 1:3", "a v q r s t 1 1:5", "b w p 2 2:5", "b w p q 2 2:6", "b w q 2 2:6", "b w q r s t 2 2:6"};
        for (String line : due) {
            String[] w = line.split(":");
            CakePapers x = Kit.with(Kit.steps("a v p 1 1"), Kit.steps(w[0]));
            KIT.due("to " + w[0], x.least(0, 1), Integer.parseInt(w[1]));
            KIT.due("from " + w[0], x.least(1, 0), Integer.parseInt(w[1]));
        }
        // by NAME: MADE in one, RAW in the other
        CakePapers y = Kit.with(Kit.steps("a v p 1 1", "b v a 1 1"), Kit.steps("b v a 1 1", "a v p 1 1"));
        KIT.due("by NAME", y.least(0, 1), 0);
    }

    private static void leastMatched() {
        KIT.sentence("LEAST: STEPS of both matched, each to one at most, whatever they MAKE, by least weight");
        CakePapers x = Kit.with(
                Kit.steps("a v p 1 1", "b w q 2 2"),
                // by what they MAKE: 12; crosswise: 1 each
                Kit.steps("a w q 2 2", "b v p 1 1"),
                // two that would best match one
                Kit.steps("a v p 1 1", "c v p 1 1", "d v p 1 1"),
                "",
                // the nearest for the first leaves the second the dearer one: 1 + 4 or 2 + 0
                Kit.steps("a v p 1 1", "b v p 2 1"),
                Kit.steps("b v p 1 1", "a v p 5 5"));
        KIT.due("crosswise", x.least(0, 1), 2);
        // a to a, b to none or to one at weight 7: 0 + 6 + 3, or 0 + 3 + 3 + 3
        KIT.due("each to one at most", x.least(0, 2), 9);
        KIT.due("turned", x.least(2, 0), 9);
        KIT.due("all not matched", x.least(2, 3), 9);
        KIT.due("none with none", x.least(3, 3), 0);
        // a-b 1, b-a 1 + 1 + 1 = 3: 4; a-a 2, b-b 1: 3
        KIT.due("least of all ways", x.least(4, 5), 3);
        KIT.due("least of all ways, turned", x.least(5, 4), 3);
    }

    private static void leastCall() {
        KIT.sentence("SPENT if either has more than 8 STEPS.");
        CakePapers x = Kit.with("", Kit.many('a', 8, "v egg 1 1"), Kit.many('a', 9, "v egg 1 1"), Kit.many('k', 8, "w oil 2 2"),
                Kit.many('a', 12, "v egg 1 1"));
        KIT.due("8 and 8", x.least(1, 1), 0);
        KIT.due("8 and 8 others", x.least(1, 3), 48);
        KIT.due("0 and 8", x.least(0, 1), 24);
        KIT.due("8 and 0", x.least(1, 0), 24);
        KIT.sentence("LEAST; NONE if one is none; -2 if SPENT.");
        KIT.due("8 and 9", x.least(1, 2), -2);
        KIT.due("9 and 8", x.least(2, 1), -2);
        KIT.due("0 and 9", x.least(0, 2), -2);
        KIT.due("9 and 9", x.least(2, 2), -2);
        KIT.due("12 and 0", x.least(4, 0), -2);
        for (int none : NO_PAPERS) {
            KIT.due("first " + none, x.least(none, 2), -1);
            KIT.due("second " + none, x.least(2, none), -1);
        }
        KIT.due("one beyond", x.least(2, 5), -1);
    }

    private static void oneDone() {
        KIT.sentence("A CHANGE done on a PAPER: OUT: its STEP goes; ALTERED: so becomes that of the STEP;");
        CakePapers x = Kit.with(
                Kit.steps("a v p 1 1", "b v p 1 1", "c v p 1 1"),
                Kit.steps("c v p 1 1", "b w c 2 3"),
                Kit.steps("b v a 1 1", "a v b 1 1", "c v a 1 1"));
        // from 0 to 1: OUT a; of b VERB, much, long, NEEDS
        int[] steps = {2, 3, 3, 3, 3};
        for (int i = 0; i < steps.length; i++) {
            KIT.due("the CHANGE " + i + " alone", x.does(0, 1, 1 << i), steps[i]);
        }
        // from 0 to 2: NEEDS of a are b, those of b are a, those of c are a
        KIT.due("a of b", x.does(0, 2, 1), 3);
        KIT.due("b of a", x.does(0, 2, 2), 3);
        KIT.due("a of b, b of a: a ring", x.does(0, 2, 3), -1);
        KIT.due("a of b, c of a", x.does(0, 2, 5), 3);
    }

    private static void someDone() {
        KIT.sentence("Some CHANGES done: first all ALTERED, then OUT, then PUT, in order.");
        // OUT a is numbered ahead of NEEDS of b, which would else lose a
        CakePapers x = Kit.with(Kit.steps("a v p 1 1", "b v a 1 1"), Kit.steps("b v p 1 1", "c v b 1 1"));
        int[] steps = {2, -1, 2, 1, 3, -1, 3, 2};
        for (int set = 0; set < steps.length; set++) {
            KIT.due("set " + set, x.does(0, 1, set), steps[set]);
        }
        // what is PUT is told in the other order than what NEEDS it is done
        CakePapers y = Kit.with(Kit.steps("a v p 1 1", "b v p 1 1"), Kit.steps("d v p 1 1", "e v d 1 1", "a v e 1 1"));
        // 0 NEEDS of a, 1 OUT b, 2 PUT d, 3 PUT e
        int[] due = {2, -1, 1, -1, 3, -1, 2, -1, -1, -1, -1, -1, 4, 4, 3, 3};
        for (int set = 0; set < due.length; set++) {
            KIT.due("set " + set, y.does(0, 1, set), due[set]);
        }
        KIT.due("one beyond", y.does(0, 1, 16), CakePapers.GAP);
    }

    private static void order() {
        KIT.sentence("SETTLED in an order: again and again the first STEP (in that order) of which no NEED is MADE by a STEP "
                + "that is not yet there comes next; it is a BREACH, if none can come");
        CakePapers x = Kit.with(
                // each of these is a PAPER, as what is not MADE ahead is RAW
                Kit.steps("a v b 1 1", "b v a 1 1"),
                Kit.steps("a v b 1 1", "b v c 1 1", "c v a 1 1"),
                Kit.steps("z v p 1 1", "a v b z 1 1", "b v a 1 1"),
                Kit.steps("c v b 1 1", "b v a 1 1", "a v p 1 1"),
                "");
        KIT.due("a ring of two", x.does(0, 0, 0), -1);
        KIT.due("a ring of three", x.does(1, 1, 0), -1);
        KIT.due("a ring behind one that can come", x.does(2, 2, 0), -1);
        KIT.due("turned, no ring", x.does(3, 3, 0), 3);
        String[] lines = new String[12];
        for (int i = 0; i < 12; i++) {
            lines[i] = (char) ('a' + i) + " v " + (char) ('a' + (i + 1) % 12) + " 1 1";
        }
        CakePapers ring = Kit.with(Kit.steps(lines));
        KIT.due("a ring of twelve", ring.does(0, 0, 0), -1);
        KIT.due("nothing", x.does(4, 4, 0), 0);
        KIT.due("b of a, which was MADE and is OUT", x.does(0, 4, 1), -1);
        KIT.due("a ring gone", x.does(0, 4, 3), 0);
        // a of b, b RAW: OUT with b it may stay
        KIT.due("a alone, b was RAW", x.does(0, 4, 2), 1);
    }

    private static void tooMany() {
        KIT.sentence("or there are more than 12.");
        CakePapers x = Kit.with(Kit.many('a', 12, "v egg 1 1"), Kit.many('m', 2, "v egg 1 1"), Kit.many('a', 11, "v egg 1 1"));
        int put = 1 << 12;
        KIT.due("12", x.does(0, 1, 0), 12);
        KIT.due("13", x.does(0, 1, put), -1);
        KIT.due("14", x.does(0, 1, 3 * put), -1);
        KIT.due("12 by one OUT", x.does(0, 1, put | 1), 12);
        KIT.due("13 by one OUT and two PUT", x.does(0, 1, 3 * put | 1), -1);
        KIT.due("12 by two OUT and two PUT", x.does(0, 1, 3 * put | 3), 12);
        put = 1 << 11;
        KIT.due("11", x.does(2, 1, 0), 11);
        KIT.due("11 and one", x.does(2, 1, put), 12);
        KIT.due("11 and two", x.does(2, 1, 3 * put), -1);
    }

    private static void lostOfFirst() {
        KIT.sentence("A BREACH is, too, a NEED that was MADE in the PAPER its STEP (for ALTERED NEEDS: these) is from, and is RAW now.");
        CakePapers x = Kit.with(
                Kit.steps("a v p 1 1", "b v a p 1 1"),
                Kit.steps("b v a p 1 1", "a v p 1 1"),
                "",
                Kit.steps("b v a p 1 1"));
        KIT.due("MADE, and its STEP is OUT", x.does(0, 3, 1), -1);
        KIT.due("both are OUT", x.does(0, 2, 3), 0);
        KIT.due("what NEEDS it alone is OUT", x.does(0, 2, 2), 1);
        KIT.due("RAW, and the STEP behind is OUT", x.does(1, 3, 1), 1);
        KIT.due("RAW, and MADE now", x.does(3, 0, 1), 2);
    }

    private static void lostOfSecond() {
        // PUT: x of a is MADE in the second, y of a is RAW there
        CakePapers x = Kit.with(
                Kit.steps("a v p 1 1", "c v p 1 1"),
                Kit.steps("y v a 1 1", "a v p 1 1", "x v a 1 1", "z v x 1 1"),
                Kit.steps("c v p 1 1"));
        // from 0 to 1: OUT c, PUT y, x, z
        KIT.due("x with a", x.does(0, 1, 4), 3);
        KIT.due("z without x", x.does(0, 1, 8), -1);
        KIT.due("z with x", x.does(0, 1, 12), 4);
        // from 2 to 1: OUT c, PUT y, a, x, z
        KIT.due("x without a", x.does(2, 1, 8), -1);
        KIT.due("y without a", x.does(2, 1, 2), 2);
        KIT.due("x with a", x.does(2, 1, 12), 3);
    }

    private static void lostOfAltered() {
        CakePapers x = Kit.with(
                Kit.steps("a v p 1 1", "b v a 1 1", "d v p 1 1"),
                // b of c and a: c is MADE here, a is RAW
                Kit.steps("c v p 1 1", "b v c a 9 1"),
                // a is RAW for b, as it stands behind
                Kit.steps("b v a d 1 1", "a v p 1 1"));
        // from 0 to 1: OUT a, much of b, NEEDS of b, OUT d, PUT c
        KIT.due("changes", x.changes(0, 1), 5);
        KIT.due("much alone, a OUT", x.does(0, 1, 3), -1);
        KIT.due("NEEDS without c", x.does(0, 1, 4), -1);
        KIT.due("NEEDS with c", x.does(0, 1, 20), 4);
        KIT.due("NEEDS with c, a OUT, which these had RAW", x.does(0, 1, 21), 3);
        // from 0 to 2: NEEDS of b, OUT d
        KIT.due("d is RAW in the second", x.does(0, 2, 3), 2);
        // ALTERED as in the first STEP of the second; from 0 to 1: OUT a, NEEDS of b
        CakePapers y = Kit.with(Kit.steps("a v p 1 1", "b v a 1 1"), Kit.steps("b v q 1 1"));
        KIT.due("OUT a alone", y.does(0, 1, 1), -1);
        KIT.due("NEEDS of b, too", y.does(0, 1, 3), 1);
        lostBehindWhatGoes();
        fourNeeds();
    }

    /** Four NEEDS put in are of one STEP alone: b behind it still NEEDS z; and the last STEP may have four, too. */
    private static void fourNeeds() {
        CakePapers x = Kit.with(Kit.steps("z v p 1 1", "a v p 1 1", "b v z 1 1"),
                Kit.steps("a v p r s t 1 1", "c v y 1 1", "b v z 1 1"));
        // from 0 to 1: OUT z, NEEDS of a, PUT c
        KIT.due("NEEDS of a", x.does(0, 1, 2), 3);
        KIT.due("NEEDS of a, OUT z that b NEEDS", x.does(0, 1, 3), -1);
        String eleven = Kit.many('a', 11, "v egg 1 1");
        CakePapers y = Kit.with(eleven + Kit.steps("l v a b c d 1 1"), eleven + Kit.steps("l v e f g h 1 1"), eleven);
        KIT.due("the last STEP", y.does(0, 0, 0), 12);
        KIT.due("the last STEP ALTERED", y.does(0, 1, 1), 12);
        KIT.due("the last STEP PUT", y.does(2, 1, 1), 12);
    }

    /** Each place among the NEEDS, of a STEP that comes nearer as one ahead is OUT. */
    private static void lostBehindWhatGoes() {
        String[] needs = {"a p q r", "p a q r", "p q a r", "p q r a"};
        for (String four : needs) {
            CakePapers x = Kit.with(Kit.steps("z v p 1 1", "a v p 1 1", "b v " + four + " 1 1", "c v s t u w 1 1"),
                    Kit.steps("b v " + four + " 1 1", "c v s t u w 1 1"), Kit.steps("a v p 1 1", "c v s t u w 1 1"));
            // from 0 to 1: OUT z, OUT a
            KIT.due("OUT z", x.does(0, 1, 1), 3);
            KIT.due("OUT z, and a that b NEEDS", x.does(0, 1, 3), -1);
            // from 0 to 2: OUT z, OUT b
            KIT.due("OUT z and b", x.does(0, 2, 3), 2);
        }
    }

    private static void doesCall() {
        KIT.sentence("CHANGES (as bits: the first 20 of them) done on the first PAPER: how many STEPS; NONE: a BREACH; "
                + "GAP if one is none, or a bit is beyond.");
        CakePapers x = Kit.with("", Kit.many('a', 12, "v egg 1 1"), Kit.many('m', 7, "v egg 1 1"), Kit.many('m', 8, "v egg 1 1"),
                Kit.many('m', 9, "v egg 1 1"), Kit.steps("a v p 1 1"));
        // 19, 20, 21 CHANGES
        int[] changes = {19, 20, 21};
        for (int i = 0; i < 3; i++) {
            int bits = Math.min(changes[i], 20);
            KIT.due("changes", x.changes(1, 2 + i), changes[i]);
            KIT.due("all of the first", x.does(1, 2 + i, (1 << bits) - 1), bits - 12);
            KIT.due("one beyond", x.does(1, 2 + i, 1 << bits), CakePapers.GAP);
            KIT.due("one beyond, with others", x.does(1, 2 + i, 1 << bits | 1), CakePapers.GAP);
        }
        KIT.due("the 20th alone", x.does(1, 3, 1 << 19), -1);
        KIT.due("the 20th of 21, with one OUT", x.does(1, 4, 1 << 19 | 1), 12);
        for (int bit = 0; bit < 32; bit++) {
            KIT.due("no CHANGE, bit " + bit, x.does(5, 5, 1 << bit), CakePapers.GAP);
        }
        KIT.due("none of them", x.does(1, 4, 0), 12);
        KIT.due("no CHANGE", x.does(5, 5, 0), 1);
        KIT.due("of nothing", x.does(0, 0, 0), 0);
        KIT.due("all bits", x.does(1, 4, -1), CakePapers.GAP);
        KIT.due("the highest", x.does(1, 4, Kit.LEAST_INT), CakePapers.GAP);
        KIT.due("all but the highest", x.does(1, 4, Kit.MOST_INT), CakePapers.GAP);
        for (int none : NO_PAPERS) {
            KIT.due("first " + none, x.does(none, 1, 0), CakePapers.GAP);
            KIT.due("second " + none, x.does(1, none, 0), CakePapers.GAP);
        }
        KIT.due("one beyond", x.does(1, 6, 0), CakePapers.GAP);
        KIT.due("the first PAPER is as it was", x.makes(1, 0), 12);
        KIT.due("no PAPER more", x.about(0), 6);
    }
}
