import java.io.IOException;
import java.io.UncheckedIOException;
import java.nio.charset.StandardCharsets;
import java.nio.file.Files;
import java.nio.file.Path;

/** What the tests share: telling texts to an object, and counting wrong answers. */
final class Kit {
    static final int LEAST_INT = Integer.MIN_VALUE;
    static final int MOST_INT = Integer.MAX_VALUE;

    private int wrong;
    private int asked;
    private int sentences;
    private String document = "";
    private String sentence = "";

    void due(String call, long got, long due) {
        asked++;
        if (got != due) {
            wrong++;
            System.out.println(call + " answered " + got + ", due is " + due
                    + (sentence.isEmpty() ? "" : " (" + sentence + ")"));
        }
    }

    /** What is asked from here on holds to this sentence, which must stand in the document word for word. */
    void sentence(String words) {
        if (document.isEmpty()) {
            try {
                document = folded(Files.readString(Path.of("../shared/DOC.md")));
            } catch (IOException e) {
                throw new UncheckedIOException(e);
            }
        }
        sentence = words;
        sentences++;
        due("the document says this", document.contains(folded(words)), true);
    }

    private static String folded(String text) {
        return text.replaceAll("\\s+", " ");
    }

    void due(String call, boolean got, boolean due) {
        due(call, got ? 1 : 0, due ? 1 : 0);
    }

    void finish(String name) {
        String held = sentences == 0 ? "" : " to " + sentences + " sentences";
        System.out.println(name + ": " + asked + " answers" + held + ", " + wrong + " wrong");
        if (wrong != 0) {
            System.exit(1);
        }
    }

    /** Puts a text behind what is on the TAPE. */
    static void tell(CakePapers x, String text) {
        byte[] bytes = text.getBytes(StandardCharsets.ISO_8859_1);
        int end = x.about(4) + bytes.length;
        for (int i = 0; i < bytes.length; i += 20) {
            int n = x.about(4);
            if (x.feed(four(bytes, i), four(bytes, i + 4), four(bytes, i + 8), four(bytes, i + 12),
                    four(bytes, i + 16)) != n + 20) {
                throw new IllegalStateException("the TAPE is full");
            }
        }
        if (x.end(end) != end) {
            throw new IllegalStateException("the TAPE has no such end");
        }
    }

    private static int four(byte[] bytes, int at) {
        int number = 0;
        for (int i = at; i < at + 4; i++) {
            number = number << 8 | (i < bytes.length ? bytes[i] & 255 : 32);
        }
        return number;
    }

    static int paper(CakePapers x, String text) {
        x.end(0);
        tell(x, text);
        return x.paper();
    }

    static int want(CakePapers x, String text) {
        x.end(0);
        tell(x, text);
        return x.want();
    }

    void isPaper(String text, int steps) {
        CakePapers x = new CakePapers();
        due("<" + text + ">", paper(x, text), 0);
        due("<" + text + "> fault", x.fault(0), 0);
        due("<" + text + "> place", x.fault(1), -1);
        due("<" + text + "> steps", x.makes(0, 0), steps);
        due("<" + text + "> TAPE", x.about(4), 0);
    }

    /** The place is that of the sign ^, which is no part of the text. */
    void isNoPaper(String marked, int code) {
        isNoPaper(marked.replace("^", ""), code, marked.indexOf('^'));
    }

    void isNoPaper(String text, int code, int place) {
        CakePapers x = new CakePapers();
        due("<" + text + ">", paper(x, text), -1);
        due("<" + text + "> fault", x.fault(0), code);
        due("<" + text + "> place", x.fault(1), place);
        due("<" + text + "> no other what", x.fault(2), -1);
        due("<" + text + "> papers", x.about(0), 0);
        due("<" + text + "> TAPE", x.about(4), text.length());
    }

    /** Of PAPER 0 of an object. */
    void isWant(CakePapers x, String text, int units, int value) {
        due(text, want(x, text), units);
        due(text + " fault", x.fault(0), 0);
        due(text + " place", x.fault(1), -1);
        due(text + " units", x.about(1), units);
        due(text + " value", x.makes(0, 5), value);
    }

    void isNoWant(String marked, int code) {
        isNoWant(marked.replace("^", ""), code, marked.indexOf('^'));
    }

    void isNoWant(String text, int code, int place) {
        CakePapers x = with("");
        due("a WANT ahead", want(x, "want 41 + 1;"), 2);
        due(text, want(x, text), -1);
        due(text + " fault", x.fault(0), code);
        due(text + " place", x.fault(1), place);
        due(text + " stays", x.makes(0, 5), 42);
        due(text + " units", x.about(1), 2);
        due(text + " TAPE", x.about(4), text.length());
    }

    static CakePapers with(String... papers) {
        CakePapers x = new CakePapers();
        for (String text : papers) {
            if (paper(x, text) < 0) {
                throw new IllegalStateException("no PAPER: " + text + ": " + x.fault(0) + " at " + x.fault(1));
            }
        }
        return x;
    }

    /** So many STEPS that MAKE names from this letter on, each with the same rest: "beat egg 1 1". */
    static String many(char first, int count, String rest) {
        String[] lines = new String[count];
        for (int i = 0; i < count; i++) {
            lines[i] = (char) (first + i) + " " + rest;
        }
        return steps(lines);
    }

    /** "a beat egg flour 3 5" is a make line's short form. */
    static String steps(String... lines) {
        StringBuilder text = new StringBuilder();
        for (String line : lines) {
            String[] w = line.split(" ");
            text.append("make ").append(w[0]).append(" by ").append(w[1]).append(" of");
            for (int i = 2; i < w.length - 2; i++) {
                text.append(' ').append(w[i]);
            }
            text.append(" much ").append(w[w.length - 2]).append(" long ").append(w[w.length - 1]).append(";");
        }
        return text.toString();
    }
}
