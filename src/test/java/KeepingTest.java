/** Promises 26 to 29: tear, image, back, about. */
public final class KeepingTest {
    private static final Kit KIT = new Kit();

    public static void main(String[] args) {
        tear();
        images();
        imagesOfJoinings();
        about();
        KIT.finish("KeepingTest");
    }

    private static CakePapers five() {
        return Kit.with(Kit.steps("a beat egg 1 1"), Kit.steps("a beat egg 2 1"), Kit.steps("a beat egg 3 1"),
                Kit.steps("a beat egg 4 1"), Kit.steps("a beat egg 5 1"));
    }

    private static void muches(CakePapers x, int... due) {
        KIT.due("papers", x.about(0), due.length);
        for (int i = 0; i < due.length; i++) {
            KIT.due("much of " + i, x.makes(i, 3), due[i]);
        }
        KIT.due("no more", x.makes(due.length, 3), -1);
    }

    private static void tear() {
        CakePapers x = five();
        KIT.due("tear 5", x.tear(5), false);
        KIT.due("tear -1", x.tear(-1), false);
        x.join(0, 1, 2);
        KIT.due("tear none", x.tear(9), false);
        KIT.due("the joining stays", x.about(2), 1);
        KIT.due("tear 4", x.tear(4), true);
        KIT.due("the joining is none", x.about(2), -1);
        KIT.due("nor its quarrel", x.quarrel(0, 0), -1);
        KIT.due("nor to settle", x.settle(0, 0), false);
        KIT.due("nor joined", x.joined(), -1);
        KIT.due("nor left", x.left(0), -1);
        muches(x, 1, 2, 3, 4);
        KIT.due("tear 1", x.tear(1), true);
        muches(x, 1, 3, 4);
        KIT.due("tear 0", x.tear(0), true);
        KIT.due("tear 0", x.tear(0), true);
        KIT.due("tear 0", x.tear(0), true);
        KIT.due("tear 0", x.tear(0), false);
        muches(x);
        KIT.due("a new one", Kit.paper(x, Kit.steps("a beat egg 9 1")), 0);
        muches(x, 9);
    }

    private static void images() {
        CakePapers x = new CakePapers();
        KIT.due("image of none", x.image(2), 0);
        x = five();
        KIT.due("no box 3", x.image(3), -1);
        KIT.due("no box -1", x.image(-1), -1);
        KIT.due("nothing kept", x.back(0), -1);
        KIT.due("image 0", x.image(0), 5);
        x.tear(2);
        KIT.due("image 1", x.image(1), 4);
        x.tear(0);
        Kit.paper(x, Kit.steps("a beat egg 7 1"));
        muches(x, 2, 4, 5, 7);
        Kit.tell(x, "make");
        KIT.due("back 0", x.back(0), 5);
        muches(x, 1, 2, 3, 4, 5);
        KIT.due("the TAPE stays", x.about(4), 4);
        x.end(0);
        KIT.due("back 1", x.back(1), 4);
        muches(x, 1, 2, 4, 5);
        KIT.due("over it", x.image(0), 4);
        x.tear(0);
        KIT.due("back 0", x.back(0), 4);
        KIT.due("again", x.back(0), 4);
        muches(x, 1, 2, 4, 5);
        KIT.due("nothing was", x.back(2), -1);
        KIT.due("no box", x.back(3), -1);
        KIT.due("no box", x.back(-1), -1);
        muches(x, 1, 2, 4, 5);
    }

    private static void imagesOfJoinings() {
        CakePapers x = Kit.with(
                Kit.steps("a beat egg 1 1"), Kit.steps("a beat egg 2 2"), Kit.steps("a beat egg 3 3"));
        x.image(0);
        KIT.due("join", x.join(0, 1, 2), 2);
        x.settle(1, 2);
        x.image(1);
        x.settle(0, 1);
        x.image(2);
        x.settle(1, 0);
        x.back(1);
        KIT.due("not settled", x.quarrel(0, 2), -1);
        KIT.due("settled", x.quarrel(1, 2), 2);
        KIT.due("one of them", x.about(3), 1);
        KIT.due("joined", x.joined(), -2);
        x.settle(0, 0);
        x.back(2);
        KIT.due("settled by 1", x.quarrel(0, 2), 1);
        KIT.due("joined", x.joined(), 3);
        KIT.due("much", x.step(3, 0, 0), 3);
        KIT.due("long", x.step(3, 0, 1), 1);
        x.back(0);
        KIT.due("no joining", x.about(2), -1);
        KIT.due("none settled", x.about(3), -1);
        muches(x, 1, 2, 3);
        x.tear(0);
        x.tear(0);
        x.back(1);
        KIT.due("a torn one's joining is back", x.about(2), 2);
        KIT.due("and quarrels", x.quarrel(1, 1), 3);
    }

    private static void about() {
        CakePapers x = five();
        Kit.want(x, "want steps + 2 * ends;");
        x.join(0, 1, 2);
        x.feed(0, 0, 0, 0, 0);
        int[] due = {5, 3, 1, 0, 20};
        for (int what = 0; what < 5; what++) {
            KIT.due("about " + what, x.about(what), due[what]);
        }
        x.settle(0, 2);
        x.settle(0, 1);
        KIT.due("settled anew is one", x.about(3), 1);
        KIT.due("about 5", x.about(5), -1);
        KIT.due("about -1", x.about(-1), -1);
        KIT.due("about most", x.about(Integer.MAX_VALUE), -1);
    }
}
