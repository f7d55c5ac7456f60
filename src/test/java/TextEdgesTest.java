/** Each sentence of the document that names a boundary of the TAPE, of PAPERS as texts, or of their FAULTS. */
public final class TextEdgesTest {
    private static final Kit KIT = new Kit();
    private static final String TAIL = " by beat of egg much 1 long 1;";
    private static final String LINE = "make a" + TAIL;
    private static final String OWN_WORDS = "call make by of much long want steps path ends has and or not";
    private static final String SIGNS = ";()<>=+-*";
    private static final String SIX_CALLS = "call u a;call v b;call w c;call x d;call y e;call z f;";

    public static void main(String[] args) {
        feed();
        end();
        paperAndTape();
        paperWhenFull();
        textLength();
        everyByte();
        words();
        numbers();
        partedOrNot();
        asLongAsCanBe();
        letterBehindNumber();
        ownWords();
        calls();
        stepsAndNeeds();
        muchAndLong();
        firstByPlace();
        leastAtOnePlace();
        eachFault();
        faultCall();
        KIT.finish("TextEdgesTest");
    }

    private static void feed() {
        KIT.sentence("Twenty bytes come behind those on the TAPE, of each number the highest first: how many there are");
        CakePapers x = new CakePapers();
        // "call a b;call c   d;", then the same with a wrong byte at its very end
        KIT.due("twenty", x.feed(0x63616c6c, 0x20612062, 0x3b63616c, 0x6c206320, 0x2020643b), 20);
        KIT.due("of each the highest first", x.paper(), 0);
        x.feed(0x63616c6c, 0x20612062, 0x3b63616c, 0x6c206320, 0x2020643f);
        KIT.due("a wrong one at the end", x.paper(), -1);
        KIT.due("is the twentieth", x.fault(1), 19);
        x.end(0);
        x.feed(0xff616c6c, 0x20612062, 0x3b63616c, 0x6c206320, 0x2020643b);
        KIT.due("a wrong one ahead, and the number below 0", x.paper(), -1);
        KIT.due("is the first", x.fault(1), 0);
        x.end(0);
        x.feed(Kit.LEAST_INT, Kit.MOST_INT, -1, 0, 1);
        KIT.due("any numbers are bytes", x.about(4), 20);
        KIT.sentence("NONE, and nothing comes, if there would be more than 1,200.");
        CakePapers y = new CakePapers();
        Kit.tell(y, " ".repeat(1180));
        KIT.due("just 1200", y.feed(0x20202020, 0x20202020, 0x20202020, 0x20202020, 0x20202020), 1200);
        KIT.due("1220", y.feed(-1, -1, -1, -1, -1), -1);
        KIT.due("nothing came", y.about(4), 1200);
        y.end(1181);
        KIT.due("1201", y.feed(-1, -1, -1, -1, -1), -1);
        KIT.due("nothing came", y.about(4), 1181);
        KIT.due("nor in part", y.paper(), 0);
    }

    private static void end() {
        KIT.sentence("The TAPE has its first n bytes: n");
        CakePapers x = new CakePapers();
        KIT.due("none of none", x.end(0), 0);
        Kit.tell(x, LINE + "?");
        KIT.due("all of them", x.end(LINE.length() + 1), LINE.length() + 1);
        KIT.due("the last is there still", x.paper(), -1);
        KIT.due("one less", x.end(LINE.length()), LINE.length());
        KIT.due("those are the first", x.paper(), 0);
        Kit.tell(x, "????");
        x.end(1);
        x.end(0);
        Kit.tell(x, LINE);
        KIT.due("what is cut is gone", x.paper(), 1);
        cut("make a by b of c much 1", "2 long 1;");
        cut("make a by b of c much 12", "a long 1;");
        cut("make a by b of c much 1 long 99", "99;");
        cut("make a by flour", "of c much 1 long 1;");
        cut("make", "a");
        Kit.tell(x, LINE + "make b");
        x.end(LINE.length());
        KIT.due("a line ahead of what is cut", x.paper(), 2);
        KIT.sentence("NONE, doing nothing, if it has not so many, or n is below 0.");
        Kit.tell(x, "call");
        for (int n : new int[] {5, 20, 1200, 1201, -1, Kit.LEAST_INT, Kit.MOST_INT}) {
            KIT.due("end " + n, x.end(n), -1);
            KIT.due("nothing done", x.about(4), 4);
        }
    }

    /** Fed as one and cut: what was behind is no part of the last TOKEN, and the FAULT is at the end. */
    private static void cut(String kept, String gone) {
        CakePapers x = new CakePapers();
        Kit.tell(x, kept + gone);
        x.end(kept.length());
        KIT.due("<" + kept + "> cut", x.paper(), -1);
        KIT.due("<" + kept + "> cut: its FAULT", x.fault(0), 2);
        KIT.due("<" + kept + "> cut: its place", x.fault(1), kept.length());
    }

    private static void paperAndTape() {
        KIT.sentence("The TAPE (empty then) is a PAPER more: its number");
        CakePapers x = new CakePapers();
        KIT.due("an empty TAPE", x.paper(), 0);
        KIT.due("a line", Kit.paper(x, LINE), 1);
        KIT.due("empty then", x.about(4), 0);
        KIT.due("so it is empty", x.paper(), 2);
        KIT.due("of no STEPS", x.makes(2, 0), 0);
        KIT.sentence("NONE: a FAULT (all stays)");
        Kit.want(x, "want 1 + 2;");
        x.join(0, 1, 2);
        KIT.due("a FAULT", Kit.paper(x, LINE + "make"), -1);
        KIT.due("PAPERS", x.about(0), 3);
        KIT.due("WANT", x.about(1), 2);
        KIT.due("JOINING", x.about(2), 0);
        KIT.due("TAPE", x.about(4), LINE.length() + 4);
        KIT.due("a STEP", x.step(1, 0, 0), 1);
        KIT.due("no PAPER more", x.makes(3, 0), -1);
        Kit.tell(x, " b" + TAIL);
        KIT.due("gone on from", x.paper(), 3);
        KIT.due("its STEPS", x.makes(3, 0), 2);
        refusedIsGone();
    }

    /** Nothing of a refused text is in the next PAPER: neither NEEDS, nor calls, nor STEPS. */
    private static void refusedIsGone() {
        CakePapers x = Kit.with(Kit.steps("a v p 1 1"), Kit.steps("a v q r 1 1"));
        KIT.due("refused", Kit.paper(x, "call v w;" + Kit.steps("a v p q r s 9 9", "b v a 9 9") + "?"), -1);
        KIT.due("the next", Kit.paper(x, Kit.steps("a v p 1 1")), 2);
        KIT.due("as if there were no other", x.changes(2, 0), 0);
        KIT.due("turned", x.changes(0, 2), 0);
        KIT.due("NEEDS of another", x.changes(2, 1), 1);
        KIT.due("weighed", x.least(2, 1), 3);
        KIT.due("its STEPS", x.makes(2, 0), 1);
        KIT.due("its ENDS", x.makes(2, 1), 1);
    }

    private static void paperWhenFull() {
        KIT.sentence("-3, and the TAPE is empty: there are 8.");
        CakePapers x = new CakePapers();
        for (int i = 0; i < 7; i++) {
            x.paper();
        }
        KIT.due("the eighth", Kit.paper(x, LINE), 7);
        for (String text : new String[] {"", LINE, "make", "?"}) {
            KIT.due("a ninth", Kit.paper(x, text), -3);
            KIT.due("the TAPE is empty", x.about(4), 0);
            KIT.due("there are 8", x.about(0), 8);
        }
        KIT.due("the eighth is as it was", x.makes(7, 0), 1);
        x.tear(0);
        KIT.due("with one torn there are 7", Kit.paper(x, LINE), 7);
    }

    private static void textLength() {
        KIT.sentence("A PAPER is a text of at most 1,200 bytes: paper = {call NAME NAME ;} "
                + "{make NAME by NAME of NAME {NAME} much N long N ;}.");
        KIT.isPaper("", 0);
        KIT.isPaper("call a b;", 0);
        KIT.isPaper(LINE, 1);
        KIT.isPaper(SIX_CALLS + LINE, 1);
        StringBuilder largest = new StringBuilder();
        for (char c = 'a'; c < 'g'; c++) {
            largest.append("call bcdefgh").append(c).append(" cdefghi").append(c).append(';');
        }
        for (char c = 'a'; c < 'm'; c++) {
            largest.append("make abcdefg").append(c).append(" by bcdefgha of ");
            largest.append("bcdefghc bcdefghd bcdefghe bcdefghf much 0999 long 0999;");
        }
        largest.append(" ".repeat(1200 - largest.length()));
        KIT.isPaper(largest.toString(), 12);
        KIT.isNoPaper("make" + " ".repeat(1196) + "^", 2);
        KIT.isNoPaper(" ".repeat(1199) + "^?", 1);
        KIT.isNoPaper(" ".repeat(1196) + "make^", 2);
    }

    /** Each of the 256 bytes where a PAPER begins, where a NAME is due, and where a unit is. */
    private static void everyByte() {
        KIT.sentence("TOKENS: words (a .. z, 8 at most), N (1 to 4 digits), signs ; ( ) < > = + - *; blanks (32, 10)");
        for (int b = 0; b < 256; b++) {
            String sign = Character.toString((char) b);
            boolean blank = b == 32 || b == 10;
            boolean letter = b >= 'a' && b <= 'z';
            boolean digit = b >= '0' && b <= '9';
            boolean token = letter || digit || SIGNS.indexOf(b) >= 0;
            if (blank) {
                KIT.isPaper(sign, 0);
                KIT.isPaper("make" + sign + "a" + TAIL, 1);
            } else {
                KIT.isNoPaper(sign, token ? 2 : 1, 0);
                KIT.isNoPaper(LINE + sign, token ? 2 : 1, LINE.length());
            }
            KIT.isNoPaper("make " + sign, token || blank ? 2 : 1, blank || letter ? 6 : 5);
            if (digit) {
                KIT.isWant(Kit.with(""), "want " + sign + ";", 1, b - '0');
            } else {
                KIT.isNoWant("want " + sign + ";", token || blank ? 2 : 1, blank || b == '(' ? 6 : 5);
            }
        }
    }

    private static void words() {
        KIT.sentence("words (a .. z, 8 at most)");
        KIT.isPaper("make a by z of abcdefgh much 1 long 1;", 1);
        KIT.isPaper("call abcdefgh zyxwvuts;make zyxwvutz by hgfedcba of aaaaaaaa aaaaaaab much 1 long 1;", 1);
        KIT.isNoPaper("make ^abcdefghi" + TAIL, 1);
        KIT.isNoPaper("make a by ^abcdefghi of", 1);
        KIT.isNoPaper("make a by b of c ^flourmuch 1 long 1;", 1);
        KIT.isNoPaper("call ^abcdefghi b;", 1);
        KIT.isNoPaper("call a ^abcdefghi;", 1);
        KIT.isNoPaper("^" + "a".repeat(1200), 1);
        // what stands first or last of the eight letters parts two NAMES
        CakePapers x = Kit.with(Kit.steps("abcdefgh v egg 1 1"), Kit.steps("abcdefgi v egg 1 1"), Kit.steps("bbcdefgh v egg 1 1"),
                Kit.steps("abcdefg v egg 1 1"));
        for (int i = 0; i < 4; i++) {
            for (int j = 0; j < 4; j++) {
                KIT.due("NAMES " + i + " and " + j, x.changes(i, j), i == j ? 0 : 2);
            }
        }
    }

    private static void numbers() {
        KIT.sentence("N (1 to 4 digits)");
        KIT.isPaper("make a by b of c much 1 long 0001;", 1);
        KIT.isPaper("make a by b of c much 12 long 0000;", 1);
        CakePapers x = Kit.with("make a by b of c much 0012 long 099;");
        KIT.due("0 ahead counts nothing", x.step(0, 0, 0), 12);
        KIT.due("0 ahead of long", x.step(0, 0, 1), 99);
        KIT.isNoPaper("make a by b of c much ^00000 long 1;", 4);
        KIT.isNoPaper("make a by b of c much ^10000 long 1;", 4);
        KIT.isNoPaper("make a by b of c much 1 long ^00001;", 4);
        KIT.isNoPaper("make a by b of c much ^4294967297 long 1;", 4);
        KIT.isNoPaper("make a by b of c much ^" + "0".repeat(1000) + " long 1;", 4);
        KIT.isNoPaper("make a by b of c much ^", 2);
    }

    private static void partedOrNot() {
        KIT.sentence("blanks (32, 10) part them or not");
        KIT.isPaper("\n \ncall\na\nb\n;\n \nmake\na\nby\nb\nof\nc\nmuch\n1\nlong\n1\n;\n\n", 1);
        KIT.isPaper("call a b;call c d;make a by b of c much1 long1;make d" + TAIL, 2);
        KIT.isPaper("make a by b of c much1 long1;make b by b of c much1 long1;", 2);
        KIT.isNoPaper("make^\ta", 1);
        KIT.isNoPaper("make a^\r\n", 1);
        KIT.isWant(Kit.with(LINE), "want(steps)*2+much-1<9 and not ends>8;", 8, 1);
    }

    private static void asLongAsCanBe() {
        KIT.sentence("each is as long as can be");
        KIT.isNoPaper("^makea" + TAIL, 2);
        KIT.isNoPaper("make a ^byb of c much 1 long 1;", 2);
        KIT.isNoPaper("make a by b ^ofc much 1 long 1;", 2);
        KIT.isPaper("make callx by makex of byx ofx muchx longx much 1 long 1;", 1);
        KIT.isPaper("make wantx by stepsx of pathx endsx hasx andx much 1 long 1;", 1);
        KIT.isPaper("make b by y of o f cal ake much 1 long 1;", 1);
        KIT.due("12 is one N", Kit.with("make a by b of c much12 long345;").step(0, 0, 1), 345);
        KIT.isNoPaper("make a by b of c much 1 ^2 long 1;", 2);
    }

    private static void letterBehindNumber() {
        KIT.sentence("no letter directly behind an N.");
        KIT.isNoPaper("make a by b of c much ^1long 1;", 1);
        KIT.isNoPaper("make a by b of c much 1 long ^1a;", 1);
        KIT.isNoPaper("make a by b of c much ^9999z long 1;", 1);
        KIT.isNoPaper("make a by b of c much ^12345a long 1;", 1);
        KIT.isNoPaper("make ^7a" + TAIL, 1);
        KIT.isNoWant("want ^1and 1;", 1);
        KIT.isNoWant("want 1 < ^2or 1;", 1);
        KIT.isPaper("make a by b of c much 1\nlong 1\n;", 1);
        KIT.isNoPaper("make a by b of c much 1^? long", 1);
    }

    private static void ownWords() {
        KIT.sentence("Words that stand for themselves here or in a WANT "
                + "(call make by of much long want steps path ends has and or not) are no NAMES.");
        for (String word : OWN_WORDS.split(" ")) {
            KIT.isNoPaper("call ^" + word + " a;", 2);
            KIT.isNoPaper("call a ^" + word + ";", 2);
            KIT.isNoPaper("make ^" + word + TAIL, 2);
            KIT.isNoPaper("make a by ^" + word + " of c much 1 long 1;", 2);
            KIT.isNoPaper("make a by b of ^" + word + " much 1 long 1;", 2);
            if (!word.equals("much")) {
                KIT.isNoPaper("make a by b of c ^" + word + " much 1 long 1;", 2);
            }
            KIT.isNoWant("want has ^" + word + ";", 2);
            KIT.isPaper("make " + word + "s" + TAIL.replace("beat", word + "x"), 1);
        }
    }

    private static void calls() {
        KIT.sentence("At most 6 calls");
        KIT.isPaper(SIX_CALLS, 0);
        KIT.isNoPaper(SIX_CALLS + "^call t g;", 2);
        KIT.isNoPaper(SIX_CALLS + "^call u g;", 2);
        KIT.isNoPaper(SIX_CALLS + "^call", 2);
        KIT.sentence("(the first NAME stands for the second one in all NAMES of the make lines, once: "
                + "the second one is not looked up again)");
        CakePapers x = Kit.with(
                SIX_CALLS + "make u by v of w x y z much 1 long 1;",
                "make a by b of c d e f much 1 long 1;",
                "call a b;call b c;call c a;make a by b of c much 1 long 1;",
                "make b by c of a much 1 long 1;",
                "call a a;make a by b of c much 1 long 1;",
                "make a by b of c much 1 long 1;");
        KIT.due("in all NAMES", x.changes(0, 1), 0);
        KIT.due("once", x.changes(2, 3), 0);
        KIT.due("itself", x.changes(4, 5), 0);
        KIT.isPaper("call a b;call b a;make a by v of b much 1 long 1;make b by v of a much 1 long 1;", 2);
        KIT.sentence("1 if a STEP MAKES that, else 0");
        Kit.want(x, "want 10 * has u + has a;");
        KIT.due("a call stands in make lines alone", x.makes(0, 5), 1);
    }

    private static void stepsAndNeeds() {
        KIT.sentence("12 STEPS, numbered as told: what it MAKES, its VERB, NEEDS (1 to 4 NAMES)");
        KIT.isPaper(Kit.many('a', 11, "beat egg 1 1"), 11);
        KIT.isPaper(Kit.many('a', 12, "beat egg 1 1"), 12);
        KIT.isNoPaper(Kit.many('a', 12, "beat egg 1 1") + "^make m" + TAIL, 2);
        KIT.isNoPaper(Kit.many('a', 12, "beat egg 1 1") + "^make a" + TAIL, 2);
        KIT.isNoPaper(Kit.many('a', 12, "beat egg 1 1") + "\n^make", 2);
        CakePapers x = Kit.with(Kit.steps("a v p 7 1", "b v p q 8 1", "c v p q r 9 1", "d v p q r s 10 1"));
        for (int step = 0; step < 4; step++) {
            KIT.due("numbered as told", x.step(0, step, 0), 7 + step);
            KIT.due("1 to 4 NEEDS", x.step(0, step, 2), 1 + step);
        }
        KIT.isNoPaper("make a by b of ^much 1 long 1;", 2);
        KIT.isNoPaper("make a by b of c d e f ^g much 1 long 1;", 2);
        KIT.isNoPaper("make a by b of c d e f ^g h i j k", 2);
    }

    private static void muchAndLong() {
        KIT.sentence("much, long (0 .. 999).");
        CakePapers x = Kit.with(Kit.steps("a v p 0 999", "b v p 999 0"));
        KIT.due("much 0", x.step(0, 0, 0), 0);
        KIT.due("long 999", x.step(0, 0, 1), 999);
        KIT.due("much 999", x.step(0, 1, 0), 999);
        KIT.due("long 0", x.step(0, 1, 1), 0);
        KIT.isNoPaper("make a by b of c much ^1000 long 1;", 4);
        KIT.isNoPaper("make a by b of c much 1 long ^1000;", 4);
        KIT.isNoPaper("make a by b of c much ^9999 long 9999;", 4);
        KIT.isNoPaper("make a by b of c much ^-1 long 1;", 2);
        KIT.isNoPaper("make a by b of c much ^long 1;", 2);
        KIT.isNoPaper("make a by b of c much 1 long ^;", 2);
        KIT.isNoPaper("make a by b of c ^long 1;", 2);
        KIT.isNoPaper("make a by b of c much 1^;", 2);
    }

    private static void firstByPlace() {
        KIT.sentence("FAULTS, the first by its place (bytes from 0; the end: the text's length)");
        KIT.isNoPaper("^?", 1);
        KIT.isNoPaper("make a by b of ^a much 9999 long ?", 6);
        KIT.isNoPaper("make a by b of c ^c a ? much 9999", 3);
        KIT.isNoPaper("make a by b of c much ^9999 ?", 4);
        KIT.isNoPaper("make a by b of c much 1 ^; ?", 2);
        KIT.isNoPaper("make a by b of c^? c", 1);
        KIT.isNoPaper("call^", 2);
        KIT.isNoPaper("call \n ^", 2);
        KIT.isNoPaper(LINE + "make b by^", 2);
        KIT.isNoPaper(LINE + "make b by \n^", 2);
    }

    private static void leastAtOnePlace() {
        KIT.sentence("at one place the least");
        // 1 and 2
        KIT.isNoPaper("make a by b of c much ^?", 1);
        KIT.isNoPaper("make a by b of c d e f ^abcdefghi", 1);
        // 1 and 4
        KIT.isNoPaper("make a by b of c much ^1000x", 1);
        // 2 and 3, 2 and 6
        KIT.isNoPaper("make a by b of c d e f ^f much 1 long 1;", 2);
        KIT.isNoPaper("make a by b of c d e f ^a much 1 long 1;", 2);
        // 2 and 4
        KIT.isNoPaper("make ^1000" + TAIL, 2);
        KIT.isNoPaper("make ^12345" + TAIL, 2);
        KIT.isNoWant("want has ^12345;", 2);
        KIT.isNoWant("want 1" + "+1".repeat(39) + "+^12345;", 2);
        KIT.isNoWant("want 1" + "+1".repeat(39) + "+^?;", 1);
    }

    private static void eachFault() {
        KIT.sentence("1 no TOKEN");
        KIT.isNoPaper("make a by b of c ^, d", 1);
        KIT.sentence("2 one that can't stand there (a 7th call, a call behind a make, a 13th make: at the line's first word; "
                + "a 5th NEED: there; signs of a WANT too)");
        KIT.isNoPaper(SIX_CALLS + "\n ^call t g;" + LINE, 2);
        KIT.isNoPaper(LINE + " ^call b c;", 2);
        KIT.isNoPaper(LINE + " ^call a a ?", 2);
        KIT.isNoPaper("call z y;" + Kit.many('a', 12, "beat egg 1 1") + " ^make m" + TAIL, 2);
        KIT.isNoPaper("make a by b of c d e f \n^g much 1 long 1;", 2);
        for (char sign : "()<>=+-*".toCharArray()) {
            KIT.isNoPaper("^" + sign, 2);
            KIT.isNoPaper("make a by b of c ^" + sign + " much 1 long 1;", 2);
            KIT.isNoPaper("make a by b of c much 1 long 1 ^" + sign + ";", 2);
        }
        KIT.sentence("3 the first of a call called already; what is MADE made already; a NEED told twice");
        KIT.isNoPaper("call a b;call ^a b;", 3);
        KIT.isNoPaper("call a b;call b c;call ^a d", 3);
        KIT.isPaper("call a b;call c b;call b b;", 0);
        KIT.isNoPaper(LINE + "make b" + TAIL + "make ^a" + TAIL, 3);
        KIT.isNoPaper(LINE + "make ^a", 3);
        KIT.isNoPaper("make a by b of c ^c much 1 long 1;", 3);
        KIT.isNoPaper("make a by b of c d e ^c much 1 long 1;", 3);
        KIT.isPaper("make a by a of b much 1 long 1;make c by a of a b much 1 long 1;", 2);
        KIT.sentence("4 a number that can't be");
        KIT.isNoPaper("make a by b of c much 999 long ^1000;", 4);
        KIT.isNoPaper("make a by b of c much 999 long ^0999999;", 4);
        KIT.sentence("6 a NEED that the STEP itself MAKES (all as called).");
        KIT.isNoPaper("make a by b of ^a much 1 long 1;", 6);
        KIT.isNoPaper("make a by b of c d e ^a much 1 long 1;", 6);
        KIT.isNoPaper("call x a;make a by b of ^x much 1 long 1;", 6);
        KIT.isNoPaper("call x a;make x by b of c ^a much 1 long 1;", 6);
        KIT.isPaper("call a x;make a by b of y much 1 long 1;", 1);
        KIT.isNoPaper("call x a;make a" + TAIL + "make ^x" + TAIL, 3);
        KIT.isNoPaper("call x a;make b by b of a ^x much 1 long 1;", 3);
        KIT.isPaper("call a x;call x a;make a by b of x much 1 long 1;", 1);
    }

    private static void faultCall() {
        KIT.sentence("Of the latest of both that was not -2 or -3 what 0: its FAULT (0), 1: its place (NONE).");
        CakePapers x = new CakePapers();
        fault(x, "new", 0, -1);
        Kit.paper(x, "make a ?");
        fault(x, "a PAPER's", 1, 7);
        Kit.want(x, "want ;");
        fault(x, "a WANT's", 2, 5);
        Kit.want(x, " ".repeat(401));
        fault(x, "after -2", 2, 5);
        Kit.paper(x, "make a by b of c much 1000");
        fault(x, "a PAPER's again", 4, 22);
        Kit.want(x, "want 1;");
        fault(x, "a good WANT", 0, -1);
        Kit.want(x, "want ?");
        Kit.paper(x, LINE);
        fault(x, "a good PAPER", 0, -1);
        for (int i = 1; i < 8; i++) {
            x.paper();
        }
        Kit.want(x, "want 1 1;");
        Kit.paper(x, "make ?");
        fault(x, "after -3", 2, 7);
        x.tear(0);
        x.image(0);
        x.back(0);
        x.end(0);
        fault(x, "nothing else is asked", 2, 7);
    }

    private static void fault(CakePapers x, String when, int code, int place) {
        KIT.due(when + " fault", x.fault(0), code);
        KIT.due(when + " place", x.fault(1), place);
        KIT.sentence("NONE for another what.");
        for (int what : new int[] {-1, 2, 3, Kit.LEAST_INT, Kit.MOST_INT}) {
            KIT.due(when + " fault(" + what + ")", x.fault(what), -1);
        }
    }
}
