import java.util.List;
import java.util.Random;

/** Texts of PAPERS and WANTS, whole and spoilt, read by the program and by the plain model. */
public final class RandomTextTest {
    private static final Kit KIT = new Kit();
    private static final String[] BITS = {"call", "make", "by", "of", "much", "long", "want", "steps", "path", "ends", "has",
        "and", "or", "not", ";", "(", ")", "<", ">", "=", "+", "-", "*", "a", "b", "egg", "abcdefgh", "abcdefghi", "7", "999",
        "1000", "9999", "12345", "00001", "0012", "3a", "A", "\t", "\0", "\u00e9", "", " ", "\n", ";;", "a a"};

    public static void main(String[] args) {
        int good = 0;
        for (int seed = 0; seed < 40000; seed++) {
            Random r = new Random(seed);
            good += seed % 2 == 0 ? paper(seed, r) : want(seed, r);
        }
        KIT.due("enough texts were good", good > 4000 && good < 36000, true);
        KIT.finish("RandomTextTest");
    }

    private static String spoil(Random r, String text) {
        String spoilt = text;
        int times = r.nextInt(3);
        for (int i = 0; i < times; i++) {
            int at = r.nextInt(spoilt.length() + 1);
            int end = Math.min(spoilt.length(), at + r.nextInt(4));
            spoilt = spoilt.substring(0, at) + (r.nextBoolean() ? " " + BITS[r.nextInt(BITS.length)] + " "
                    : BITS[r.nextInt(BITS.length)]) + spoilt.substring(end);
        }
        return spoilt;
    }

    private static int paper(int seed, Random r) {
        StringBuilder text = new StringBuilder();
        String[] names = {"a", "b", "c", "d", "e", "f", "g", "h", "i", "j", "k", "l", "m", "n", "o", "p", "q", "r", "s", "t"};
        int calls = r.nextInt(3) == 0 ? r.nextInt(8) : 0;
        for (int i = 0; i < calls; i++) {
            text.append("call ").append(names[r.nextInt(20)]).append(' ').append(names[r.nextInt(20)]).append(";");
        }
        int makes = r.nextInt(r.nextInt(4) == 0 ? 15 : 4);
        for (int i = 0; i < makes; i++) {
            text.append("make ").append(r.nextInt(15) == 0 ? names[r.nextInt(20)] : names[i]).append(" by beat of");
            int needs = r.nextInt(12) == 0 ? 5 : 1 + r.nextInt(4);
            int first = r.nextInt(20);
            for (int k = 0; k < needs; k++) {
                text.append(' ').append(r.nextInt(8) == 0 ? names[r.nextInt(20)] : "x" + names[(first + k) % 20]);
            }
            text.append(" much ").append(r.nextInt(30) == 0 ? 990 + r.nextInt(20) : r.nextInt(1000));
            text.append(" long ").append(r.nextInt(100)).append(r.nextBoolean() ? ";" : " ;\n");
        }
        String told = spoil(r, text.toString());
        CakePapers x = new CakePapers();
        int got = Kit.paper(x, told);
        String who = "seed " + seed + " <" + told + "> ";
        try {
            List<Model.Step> steps = new TextModel(told).paper();
            KIT.due(who, got, 0);
            KIT.due(who + "fault", x.fault(0), 0);
            KIT.due(who + "place", x.fault(1), -1);
            KIT.due(who + "steps", x.makes(0, 0), steps.size());
            KIT.due(who + "ends", x.makes(0, 1), Model.ends(steps).size());
            KIT.due(who + "tape", x.about(4), 0);
            return 1;
        } catch (TextModel.Fault fault) {
            KIT.due(who, got, -1);
            KIT.due(who + "fault", x.fault(0), fault.code);
            KIT.due(who + "place", x.fault(1), fault.place);
            KIT.due(who + "tape", x.about(4), told.length());
            KIT.due(who + "papers", x.about(0), 0);
            return 0;
        }
    }

    private static int want(int seed, Random r) {
        StringBuilder text = new StringBuilder("want ");
        grow(r, text, 0, r.nextInt(12));
        String told = spoil(r, text.append(";").toString());
        if (told.length() > 400) {
            return 0;
        }
        String paper = Kit.steps("a beat egg 3 5", "b stir a flour 100 2", "c bake b 1 40", "d chop nuts 7 50");
        CakePapers x = Kit.with(paper);
        int got = Kit.want(x, told);
        String who = "seed " + seed + " <" + told + "> ";
        TextModel model = new TextModel(told);
        try {
            int value = model.want(new TextModel(paper).paper());
            KIT.due(who, got, model.units());
            KIT.due(who + "fault", x.fault(0), 0);
            KIT.due(who + "value", x.makes(0, 5), value);
            KIT.due(who + "units", x.about(1), model.units());
            return 1;
        } catch (TextModel.Fault fault) {
            KIT.due(who, got, -1);
            KIT.due(who + "fault", x.fault(0), fault.code);
            KIT.due(who + "place", x.fault(1), fault.place);
            KIT.due(who + "value", x.makes(0, 5), 0);
            return 0;
        }
    }

    private static void grow(Random r, StringBuilder text, int depth, int size) {
        String[] plain = {"steps", "much", "long", "path", "ends", "has a", "has z", "0", "9999", "12", "1"};
        String[] signs = {" and ", " or ", "+", "-", "*", "<", ">", "=", " and ", " or "};
        for (int i = 0; i <= size; i++) {
            if (r.nextInt(5) == 0) {
                text.append("not ");
            }
            if (depth < 9 && r.nextInt(4) == 0) {
                text.append('(');
                grow(r, text, depth + 1, r.nextInt(3));
                text.append(')');
            } else {
                text.append(plain[r.nextInt(plain.length)]);
            }
            if (i < size) {
                text.append(r.nextInt(3) == 0 ? signs[r.nextInt(signs.length)] : signs[r.nextInt(5)]);
            }
        }
    }
}
