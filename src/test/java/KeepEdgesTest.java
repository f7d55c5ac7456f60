/** Each sentence of the document that names a boundary of a new object, of tear, image, back and about, and of its 512 calls. */
public final class KeepEdgesTest {
    private static final Kit KIT = new Kit();
    private static final int[] NO_BOXES = {-1, 3, 4, Kit.LEAST_INT, Kit.MOST_INT};

    public static void main(String[] args) {
        constants();
        newObject();
        objectsApart();
        tearNearer();
        tearJoining();
        tearCall();
        imageKeeps();
        imageCall();
        backKept();
        backCall();
        aboutCall();
        aboutEdges();
        fiveHundredTwelve();
        KIT.finish("KeepEdgesTest");
    }

    private static String much(int much) {
        return Kit.steps("a v p " + much + " 1");
    }

    private static CakePapers papers(int count) {
        CakePapers x = new CakePapers();
        for (int i = 0; i < count; i++) {
            Kit.paper(x, much(i));
        }
        return x;
    }

    private static void muches(CakePapers x, int... due) {
        KIT.due("PAPERS", x.about(0), due.length);
        for (int i = 0; i < due.length; i++) {
            KIT.due("much of " + i, x.makes(i, 3), due[i]);
        }
        KIT.due("one beyond", x.makes(due.length, 3), -1);
    }

    private static void constants() {
        KIT.sentence("`NONE = -1`: There is none.");
        KIT.due("NONE", CakePapers.NONE, -1);
        KIT.sentence("`GAP = -1000000`: No number is there.");
        KIT.due("GAP", CakePapers.GAP, -1000000);
    }

    private static void newObject() {
        KIT.sentence("`CakePapers()`: No PAPERS, no WANT, no JOINING.");
        CakePapers x = new CakePapers();
        int[] about = {0, 0, -1, -1, 0};
        for (int what = 0; what < 5; what++) {
            KIT.due("about " + what, x.about(what), about[what]);
            KIT.due("makes " + what, x.makes(0, what), -1);
            KIT.due("step " + what, x.step(0, 0, what), -1);
            KIT.due("quarrel " + what, x.quarrel(0, what), -1);
            KIT.due("left " + what, x.left(what), -1);
            KIT.due("law " + what, x.law(what, 0, 0, 0, 0), -1);
            KIT.due("three " + what, x.three(0, 0, 0, 0, what), -1);
            KIT.due("ruin " + what, x.ruin(0, 0, 0, what), -1);
            KIT.due("begun " + what, x.begun(0, 0, 0, what), -1);
        }
        KIT.due("what WANT comes to", x.makes(0, 5), -1);
        KIT.due("same", x.same(0, 0), -1);
        KIT.due("alike", x.alike(0, 0, 0), -1);
        KIT.due("changes", x.changes(0, 0), -1);
        KIT.due("change", x.change(0, 0, 0, 0), -1);
        KIT.due("least", x.least(0, 0), -1);
        KIT.due("does", x.does(0, 0, 0), CakePapers.GAP);
        KIT.due("leans", x.leans(0, 0, 0), -1);
        KIT.due("join", x.join(0, 0, 0), -1);
        KIT.due("settle", x.settle(0, 0), false);
        KIT.due("joined", x.joined(), -1);
        KIT.due("best", x.best(-1), CakePapers.GAP);
        KIT.due("tear", x.tear(0), false);
        KIT.due("fault", x.fault(0), 0);
        KIT.due("place", x.fault(1), -1);
        for (int box = 0; box < 3; box++) {
            KIT.due("back " + box, x.back(box), -1);
        }
    }

    private static void objectsApart() {
        CakePapers x = papers(3);
        CakePapers y = new CakePapers();
        Kit.want(x, "want much;");
        x.join(0, 1, 2);
        x.image(0);
        Kit.tell(x, "make");
        KIT.due("another one has no PAPERS", y.about(0), 0);
        KIT.due("no WANT", y.about(1), 0);
        KIT.due("no JOINING", y.about(2), -1);
        KIT.due("no TAPE", y.about(4), 0);
        KIT.due("no image", y.back(0), -1);
    }

    private static void tearNearer() {
        KIT.sentence("A PAPER goes, those behind it come nearer");
        CakePapers x = papers(8);
        KIT.due("the last", x.tear(7), true);
        muches(x, 0, 1, 2, 3, 4, 5, 6);
        KIT.due("the first", x.tear(0), true);
        muches(x, 1, 2, 3, 4, 5, 6);
        KIT.due("one between", x.tear(2), true);
        muches(x, 1, 2, 4, 5, 6);
        KIT.due("a new one comes behind", Kit.paper(x, much(9)), 5);
        muches(x, 1, 2, 4, 5, 6, 9);
        for (int i = 0; i < 6; i++) {
            KIT.due("all of them", x.tear(0), true);
        }
        muches(x);
        KIT.due("none is left", x.tear(0), false);
        KIT.due("one alone", Kit.paper(x, much(3)), 0);
        KIT.due("goes", x.tear(0), true);
        muches(x);
    }

    private static void tearJoining() {
        KIT.sentence("the JOINING is none then: true; false if there is none such.");
        for (int torn = 0; torn < 4; torn++) {
            CakePapers x = papers(4);
            x.join(0, 1, 2);
            x.settle(0, 1);
            KIT.due("none such", x.tear(4), false);
            KIT.due("the JOINING stays", x.quarrel(0, 2), 1);
            KIT.due("be it of the JOINING or not", x.tear(torn), true);
            KIT.due("QUARRELS", x.about(2), -1);
            KIT.due("SETTLED", x.about(3), -1);
            KIT.due("quarrel", x.quarrel(0, 0), -1);
            KIT.due("settle", x.settle(0, 0), false);
            KIT.due("joined", x.joined(), -1);
            KIT.due("best", x.best(-1), CakePapers.GAP);
            KIT.due("left", x.left(0), -1);
        }
    }

    private static void tearCall() {
        CakePapers x = papers(2);
        x.join(0, 1, 1);
        for (int none : new int[] {-1, 2, 7, 8, Kit.LEAST_INT, Kit.MOST_INT}) {
            KIT.due("none such " + none, x.tear(none), false);
            KIT.due("the JOINING stays", x.about(2), 0);
        }
        muches(x, 0, 1);
    }

    private static void imageKeeps() {
        KIT.sentence("PAPERS and the JOINING, as it is SETTLED, are kept in a BOX 0 .. 2: how many PAPERS");
        CakePapers x = papers(3);
        x.join(0, 1, 2);
        KIT.due("not SETTLED", x.image(0), 3);
        x.settle(0, 2);
        KIT.due("SETTLED", x.image(1), 3);
        x.tear(0);
        KIT.due("no JOINING", x.image(2), 2);
        int[][] due = {{3, 1, 0}, {3, 1, 1}, {2, -1, -1}};
        for (int round = 0; round < 2; round++) {
            for (int box = 0; box < 3; box++) {
                KIT.due("back " + box, x.back(box), due[box][0]);
                KIT.due("QUARRELS", x.about(2), due[box][1]);
                KIT.due("SETTLED", x.about(3), due[box][2]);
                // what is done now does not reach into the BOX
                x.settle(0, 0);
                x.joined();
                Kit.paper(x, much(77));
                x.tear(0);
            }
        }
        x.back(1);
        KIT.due("by the side it was", x.quarrel(0, 2), 2);
        KIT.due("over what was kept", x.image(2), 3);
        x.tear(0);
        x.back(2);
        KIT.due("the later one", x.about(3), 1);
    }

    private static void imageCall() {
        KIT.sentence("how many PAPERS; NONE if there is none such.");
        CakePapers x = new CakePapers();
        KIT.due("none at all", x.image(0), 0);
        for (int i = 1; i <= 8; i++) {
            x.paper();
            KIT.due("image of " + i, x.image(i % 3), i);
        }
        for (int none : NO_BOXES) {
            KIT.due("no BOX " + none, x.image(none), -1);
        }
        KIT.due("as kept: 6", x.back(0), 6);
        KIT.due("as kept: 7", x.back(1), 7);
        KIT.due("as kept: 8", x.back(2), 8);
    }

    private static void backKept() {
        KIT.sentence("All is as it was kept (the WANT stays): how many PAPERS");
        CakePapers x = papers(2);
        Kit.want(x, "want 5;");
        x.image(1);
        Kit.want(x, "want 6 + much;");
        Kit.paper(x, much(9));
        x.join(0, 1, 2);
        Kit.tell(x, "make a ?");
        x.paper();
        KIT.due("back", x.back(1), 2);
        muches(x, 0, 1);
        KIT.due("no JOINING was kept", x.about(2), -1);
        KIT.due("the WANT stays", x.about(1), 2);
        KIT.due("what it comes to", x.makes(1, 5), 7);
        KIT.due("the TAPE is no part of it", x.about(4), 8);
        KIT.due("nor is the FAULT", x.fault(0), 1);
        CakePapers none = papers(0);
        none.image(0);
        Kit.paper(none, much(1));
        KIT.due("an image of nothing", none.back(0), 0);
        muches(none);
        // the JOINING of PAPERS as they were, though they were torn since
        CakePapers y = papers(3);
        y.join(0, 1, 2);
        y.settle(0, 1);
        y.image(0);
        for (int i = 0; i < 3; i++) {
            y.tear(0);
        }
        Kit.paper(y, "");
        y.back(0);
        KIT.due("JOINED of what was torn", y.joined(), 3);
        muches(y, 0, 1, 2, 2);
        // all eight of them, the first and the last, too
        CakePapers eight = papers(8);
        eight.image(2);
        for (int i = 0; i < 8; i++) {
            eight.tear(0);
            Kit.paper(eight, much(90 + i));
        }
        muches(eight, 90, 91, 92, 93, 94, 95, 96, 97);
        KIT.due("back", eight.back(2), 8);
        muches(eight, 0, 1, 2, 3, 4, 5, 6, 7);
    }

    private static void backCall() {
        KIT.sentence("how many PAPERS; NONE, doing nothing, if nothing was.");
        CakePapers x = papers(3);
        x.join(0, 1, 2);
        x.image(1);
        x.tear(2);
        x.join(0, 1, 1);
        for (int none : new int[] {0, 2, -1, 3, Kit.LEAST_INT, Kit.MOST_INT}) {
            KIT.due("nothing was in " + none, x.back(none), -1);
            KIT.due("PAPERS", x.about(0), 2);
            KIT.due("JOINING", x.about(2), 0);
        }
        KIT.due("something was", x.back(1), 3);
        KIT.due("again", x.back(1), 3);
    }

    private static void aboutCall() {
        KIT.sentence("What 0: PAPERS, 1: units of the WANT, 2: QUARRELS of the JOINING (NONE without one), "
                + "3: how many of them are SETTLED (likewise), 4: bytes on the TAPE. NONE for another what.");
        CakePapers x = papers(4);
        KIT.due("without one", x.about(2), -1);
        KIT.due("likewise", x.about(3), -1);
        x.join(0, 0, 0);
        KIT.due("one without QUARRELS", x.about(2), 0);
        KIT.due("none SETTLED", x.about(3), 0);
        for (int what : new int[] {-1, 5, Kit.LEAST_INT, Kit.MOST_INT}) {
            KIT.due("another what " + what, x.about(what), -1);
        }
        Kit.want(x, "want 1+2+3;");
        x.feed(0, 0, 0, 0, 0);
        x.join(0, 1, 2);
        x.settle(0, 0);
        int[] due = {4, 3, 1, 1, 20};
        for (int what = 0; what < 5; what++) {
            KIT.due("about " + what, x.about(what), due[what]);
        }
    }

    private static void aboutEdges() {
        CakePapers x = papers(8);
        KIT.due("8 PAPERS", x.about(0), 8);
        Kit.want(x, "want 1" + "+1".repeat(39) + ";");
        KIT.due("40 units", x.about(1), 40);
        Kit.tell(x, " ".repeat(1200));
        KIT.due("1200 bytes", x.about(4), 1200);
        x.end(0);
        KIT.due("0 bytes", x.about(4), 0);
        CakePapers y = Kit.with(Kit.many('a', 12, "v egg 1 1"), Kit.many('a', 12, "w oil 2 2"), Kit.many('a', 12, "x fat 3 3"));
        y.join(0, 1, 2);
        KIT.due("48 QUARRELS", y.about(2), 48);
        y.settle(47, 0);
        y.settle(47, 1);
        KIT.due("one SETTLED", y.about(3), 1);
    }

    private static void fiveHundredTwelve() {
        KIT.sentence("An object is used for at most 512 calls after it has been made");
        CakePapers x = new CakePapers();
        int calls = 0;
        // 100 rounds of five calls, and twelve besides
        for (int round = 0; round < 100; round++) {
            KIT.due("feed", x.feed(0x20202020, 0x20202020, 0x20202020, 0x20202020, 0x20202020), 20);
            KIT.due("paper", x.paper(), 0);
            KIT.due("image", x.image(round % 3), 1);
            KIT.due("tear", x.tear(0), true);
            KIT.due("about", x.about(0), 0);
            calls += 5;
        }
        while (calls < 511) {
            KIT.due("call " + calls, x.paper(), Math.min(calls - 500, 8) == 8 ? -3 : calls - 500);
            calls++;
        }
        KIT.due("the 512th", x.about(0), 8);
    }
}
