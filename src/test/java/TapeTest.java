/** Promises 1, 2, 3, and of 4 and 5 what they do with the TAPE. */
public final class TapeTest {
    private static final Kit KIT = new Kit();

    public static void main(String[] args) {
        newObject();
        feedAndEnd();
        paperAndTape();
        wantAndTape();
        KIT.finish("TapeTest");
    }

    private static void newObject() {
        CakePapers x = new CakePapers();
        int[] about = {0, 0, -1, -1, 0, -1, -1};
        for (int what = 0; what < about.length; what++) {
            KIT.due("new about " + what, x.about(what), about[what]);
        }
        KIT.due("new about below", x.about(-1), -1);
        KIT.due("new fault", x.fault(0), 0);
        KIT.due("new place", x.fault(1), -1);
        KIT.due("new fault 2", x.fault(2), -1);
        KIT.due("new quarrel", x.quarrel(0, 0), -1);
        KIT.due("new settle", x.settle(0, 0), false);
        KIT.due("new joined", x.joined(), -1);
        KIT.due("new best", x.best(-1), CakePapers.GAP);
        KIT.due("new left", x.left(0), -1);
        KIT.due("new tear", x.tear(0), false);
        for (int box = -1; box < 4; box++) {
            KIT.due("new back " + box, x.back(box), -1);
        }
        KIT.due("NONE", CakePapers.NONE, -1);
        KIT.due("GAP", CakePapers.GAP, -1000000);
    }

    private static void feedAndEnd() {
        CakePapers x = new CakePapers();
        for (int i = 1; i <= 60; i++) {
            KIT.due("feed " + i, x.feed(-1, 0, 255, Integer.MIN_VALUE, 1), 20 * i);
        }
        KIT.due("feed beyond", x.feed(0, 0, 0, 0, 0), -1);
        KIT.due("nothing came", x.about(4), 1200);
        KIT.due("end 1201", x.end(1201), -1);
        KIT.due("end 1181", x.end(1181), 1181);
        KIT.due("feed one too many", x.feed(0, 0, 0, 0, 0), -1);
        KIT.due("end 1180", x.end(1180), 1180);
        KIT.due("feed to the brim", x.feed(0, 0, 0, 0, 0), 1200);
        KIT.due("end below", x.end(-1), -1);
        KIT.due("end least", x.end(Integer.MIN_VALUE), -1);
        KIT.due("still", x.about(4), 1200);
        KIT.due("end 0", x.end(0), 0);
        KIT.due("empty", x.about(4), 0);
        KIT.due("end 1 of none", x.end(1), -1);
        // the highest byte first: "call", " a b", ";   " and blanks
        x.feed(0x63616c6c, 0x20612062, 0x3b202020, 0x0a0a0a0a, 0x20202020);
        KIT.due("a call alone is a PAPER", x.paper(), 0);
    }

    private static void paperAndTape() {
        CakePapers x = new CakePapers();
        KIT.due("an empty TAPE is a PAPER", x.paper(), 0);
        KIT.due("of no STEPS", x.makes(0, 0), 0);
        KIT.due("a fault", Kit.paper(x, "make"), -1);
        KIT.due("the TAPE stays", x.about(4), 4);
        KIT.due("papers stay", x.about(0), 1);
        KIT.due("fault", x.fault(0), 2);
        Kit.tell(x, " a by b of c much 1 long 2;");
        KIT.due("and is gone on with", x.paper(), 1);
        KIT.due("empty then", x.about(4), 0);
        KIT.due("no fault", x.fault(0), 0);
        KIT.due("no place", x.fault(1), -1);
        for (int i = 2; i < 8; i++) {
            KIT.due("paper " + i, x.paper(), i);
        }
        x.end(0);
        Kit.want(x, "want ?;");
        KIT.due("a fault of the WANT", x.fault(0), 1);
        KIT.due("full", Kit.paper(x, "make a"), -3);
        KIT.due("empty, too", x.about(4), 0);
        KIT.due("the fault before is the latest", x.fault(0), 1);
        KIT.due("its place", x.fault(1), 5);
    }

    private static void wantAndTape() {
        CakePapers x = new CakePapers();
        String blanks = " ".repeat(200);
        KIT.due("400 bytes", Kit.want(x, blanks + "want 7; " + " ".repeat(192)), 1);
        KIT.due("empty then", x.about(4), 0);
        KIT.due("401 bytes", Kit.want(x, blanks + "want 8 ; " + " ".repeat(192)), -2);
        KIT.due("the TAPE stays", x.about(4), 401);
        KIT.due("the WANT stays", x.about(1), 1);
        KIT.due("end", x.end(400), 400);
        KIT.due("then it is one", x.want(), 1);
        x.paper();
        KIT.due("of 8", x.makes(0, 5), 8);
        KIT.due("a fault", Kit.want(x, "want 9 9;"), -1);
        KIT.due("the TAPE stays then", x.about(4), 9);
        KIT.due("and the WANT", x.makes(0, 5), 8);
        KIT.due("place", x.fault(1), 7);
        Kit.tell(x, " ".repeat(395));
        KIT.due("too long", x.want(), -2);
        KIT.due("the latest that was not -2", x.fault(0), 2);
    }
}
