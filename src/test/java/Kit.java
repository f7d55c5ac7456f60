import java.nio.charset.StandardCharsets;

/** What the tests share: telling texts to an object, and counting wrong answers. */
final class Kit {
    private int wrong;
    private int asked;

    void due(String call, long got, long due) {
        asked++;
        if (got != due) {
            wrong++;
            System.out.println(call + " answered " + got + ", due is " + due);
        }
    }

    void due(String call, boolean got, boolean due) {
        due(call, got ? 1 : 0, due ? 1 : 0);
    }

    void finish(String name) {
        System.out.println(name + ": " + asked + " answers, " + wrong + " wrong");
        if (wrong != 0) {
            System.exit(1);
        }
    }

    /** Puts a text behind what is on the TAPE. */
    static void tell(CakePapers x, String text) {
        byte[] bytes = text.getBytes(StandardCharsets.ISO_8859_1);
        int end = x.about(4) + bytes.length;
        for (int i = 0; i < bytes.length; i += 20) {
            int n = x.about(4);
            if (x.feed(four(bytes, i), four(bytes, i + 4), four(bytes, i + 8), four(bytes, i + 12),
                    four(bytes, i + 16)) != n + 20) {
                throw new IllegalStateException("the TAPE is full");
            }
        }
        if (x.end(end) != end) {
            throw new IllegalStateException("the TAPE has no such end");
        }
    }

    private static int four(byte[] bytes, int at) {
        int number = 0;
        for (int i = at; i < at + 4; i++) {
            number = number << 8 | (i < bytes.length ? bytes[i] & 255 : 32);
        }
        return number;
    }

    static int paper(CakePapers x, String text) {
        x.end(0);
        tell(x, text);
        return x.paper();
    }

    static int want(CakePapers x, String text) {
        x.end(0);
        tell(x, text);
        return x.want();
    }

    static CakePapers with(String... papers) {
        CakePapers x = new CakePapers();
        for (String text : papers) {
            if (paper(x, text) < 0) {
                throw new IllegalStateException("no PAPER: " + text + ": " + x.fault(0) + " at " + x.fault(1));
            }
        }
        return x;
    }

    /** "a beat egg flour 3 5" is a make line's short form. */
    static String steps(String... lines) {
        StringBuilder text = new StringBuilder();
        for (String line : lines) {
            String[] w = line.split(" ");
            text.append("make ").append(w[0]).append(" by ").append(w[1]).append(" of");
            for (int i = 2; i < w.length - 2; i++) {
                text.append(' ').append(w[i]);
            }
            text.append(" much ").append(w[w.length - 2]).append(" long ").append(w[w.length - 1]).append(";");
        }
        return text.toString();
    }
}
