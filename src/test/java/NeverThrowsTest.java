import java.util.Random;

/** Random calls with ordinary and with wild arguments: none may throw, and like runs answer alike. */
public final class NeverThrowsTest {
    private static final int[] WILD = {Integer.MIN_VALUE, -1000000, -2, -1, 0, 1, 2, 3, 7, 8, 11, 12, 20, 31, 48, 64, 1200,
        Integer.MAX_VALUE};
    private static final String[] TEXTS = {
        Kit.steps("a beat egg 1 1", "b mix a 1 1", "c fry b a 2 3"),
        Kit.steps("a beat egg 2 1", "b mix a milk 1 1", "d fry b a 2 3"),
        Kit.steps("b mix a 1 9", "a stir egg 1 1", "c fry b 2 3"),
        Kit.steps("a mix b 1 1", "b mix c 1 1", "c mix a 1 1"),
        Kit.steps("a beat e 1 1", "b beat e 1 1", "c beat e 1 1", "d beat e 1 1", "f beat e 1 1", "g beat e 1 1",
                "h beat e 1 1", "i beat e 1 1", "j beat e 1 1", "k beat e 1 1", "l beat e 1 1", "m beat e 1 1"),
        Kit.steps("n beat e 1 1", "o beat e 1 1", "p beat e 1 1", "q beat e 1 1", "r beat e 1 1", "s beat e 1 1",
                "t beat e 1 1", "u beat e 1 1", "v beat e 1 1", "w beat e 1 1", "x beat e 1 1", "y beat e 1 1"),
        "", "make", "call a b;call b a;make a by a of b much 1 long 1;", "\u00ff"};
    private static final String[] WANTS = {"want much - path;", "want ends*(has a or not has b);", "want", "want 0 - 9999*9999;"};

    public static void main(String[] args) {
        Kit kit = new Kit();
        for (int seed = 0; seed < 150; seed++) {
            kit.due("seed " + seed, run(seed), run(seed));
        }
        kit.finish("NeverThrowsTest");
    }

    private static long run(int seed) {
        Random r = new Random(seed);
        CakePapers x = new CakePapers();
        long answers = 0;
        for (int i = 0; i < 900; i++) {
            answers = answers * 31 + call(r, x);
        }
        return answers;
    }

    private static int any(Random r) {
        return r.nextInt(6) == 0 ? WILD[r.nextInt(WILD.length)] : r.nextInt(5);
    }

    private static long call(Random r, CakePapers x) {
        int which = r.nextInt(40);
        switch (which) {
            case 0: return x.feed(r.nextInt(), any(r), r.nextInt(), any(r), 0x6d616b65);
            case 1: return x.end(any(r));
            case 2: return x.paper();
            case 3: return x.want();
            case 4: return x.fault(any(r));
            case 5: return x.makes(any(r), any(r));
            case 6: return x.step(any(r), any(r), any(r));
            case 7: return x.same(any(r), any(r));
            case 8: return x.alike(any(r), any(r), any(r));
            case 9: return x.changes(any(r), any(r));
            case 10: return x.change(any(r), any(r), any(r), any(r));
            case 11: return x.least(any(r), any(r));
            case 12: return x.does(any(r), any(r), any(r));
            case 13: case 29: return x.join(any(r), any(r), any(r));
            case 14: return x.quarrel(any(r), any(r));
            case 15: case 28: return x.settle(any(r), any(r)) ? 1 : 0;
            case 16: case 30: return x.joined();
            case 17: return x.best(any(r));
            case 18: return x.left(any(r));
            case 19: return x.ruin(any(r), any(r), any(r), any(r));
            case 20: return x.law(any(r), any(r), any(r), any(r), any(r));
            case 21: return x.three(any(r), any(r), any(r), any(r), any(r));
            case 22: return x.leans(any(r), any(r), any(r));
            case 23: return x.begun(any(r), any(r), any(r), any(r));
            case 24: return x.tear(any(r)) ? 1 : 0;
            case 25: return x.image(any(r));
            case 26: return x.back(any(r));
            case 27: return x.about(any(r));
            case 31: return Kit.want(x, WANTS[r.nextInt(WANTS.length)]);
            default: return Kit.paper(x, TEXTS[r.nextInt(TEXTS.length)]);
        }
    }
}
