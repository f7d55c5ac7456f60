/** Two cooks, one recipe: papers of steps, their changes, and the joining of two lines of change. */
public final class CakePapers {
    public static final int NONE = -1;
    public static final int GAP = -1000000;

    private static final int SPENT = -2;
    private static final int TAPE_BYTES = 1200;
    private static final int WANT_BYTES = 400;
    private static final int BOXES = 3;
    private static final int BITS = 20;

    private final int[] tape;
    private int taped;
    private final Scanner scanner;
    private final PaperReader paperReader;
    private final WantReader wantReader;
    private final Desk desk;
    private final Desk[] boxes;
    /** Read into first, so that a FAULT leaves the PAPERS and the WANT as they were. */
    private Paper sparePaper;
    private Want wanted;
    private Want spareWant;
    private final Likeness likeness;
    private final Joiner joiner;
    private final Changes changesOfOne;
    private final Changes changesOfOther;
    private final boolean[] chosen;
    private final Draft draft;

    public CakePapers() {
        tape = new int[TAPE_BYTES];
        scanner = new Scanner();
        paperReader = new PaperReader(scanner);
        wantReader = new WantReader(scanner);
        desk = new Desk();
        desk.count = 0;
        boxes = new Desk[BOXES];
        for (int i = 0; i < BOXES; i++) {
            boxes[i] = new Desk();
        }
        sparePaper = new Paper(Paper.MOST_STEPS);
        wanted = new Want();
        spareWant = new Want();
        likeness = new Likeness();
        draft = new Draft();
        joiner = new Joiner(draft, likeness);
        changesOfOne = new Changes();
        changesOfOther = new Changes();
        chosen = new boolean[Changes.MOST];
    }

    public int feed(int a, int b, int c, int d, int e) {
        if (taped + 20 > TAPE_BYTES) {
            return NONE;
        }
        putFour(a);
        putFour(b);
        putFour(c);
        putFour(d);
        putFour(e);
        return taped;
    }

    private void putFour(int number) {
        for (int shift = 24; shift >= 0; shift -= 8) {
            tape[taped] = (number >>> shift) & 255;
            taped++;
        }
    }

    public int end(int n) {
        if (n < 0 || n > taped) {
            return NONE;
        }
        taped = n;
        return n;
    }

    public int paper() {
        if (desk.isFull()) {
            taped = 0;
            return -3;
        }
        scanner.start(tape, taped);
        if (!paperReader.read(sparePaper)) {
            return NONE;
        }
        taped = 0;
        return keepSparePaper();
    }

    private int keepSparePaper() {
        int number = desk.add(sparePaper);
        sparePaper = new Paper(Paper.MOST_STEPS);
        return number;
    }

    public int want() {
        if (taped > WANT_BYTES) {
            return SPENT;
        }
        scanner.start(tape, taped);
        if (!wantReader.read(spareWant)) {
            return NONE;
        }
        taped = 0;
        Want before = wanted;
        wanted = spareWant;
        spareWant = before;
        joiner.forgetBest();
        return wanted.units;
    }

    public int fault(int what) {
        if (what == 0) {
            return scanner.fault;
        }
        return what == 1 ? scanner.faultPlace : NONE;
    }

    public int makes(int paper, int what) {
        Paper p = desk.get(paper);
        if (p == null) {
            return NONE;
        }
        switch (what) {
            case 0: return p.steps;
            case 1: return p.ends;
            case 2: return p.path;
            case 3: return p.allMuch;
            case 4: return p.allLong;
            case 5: return wanted.valueOf(p);
            default: return NONE;
        }
    }

    public int step(int paper, int step, int what) {
        Paper p = desk.get(paper);
        if (p == null || !p.hasStep(step)) {
            return NONE;
        }
        switch (what) {
            case 0: return p.much[step];
            case 1: return p.lasts[step];
            case 2: return p.needCount[step];
            case 3: return p.madeNeeds(step);
            case 4: return p.isEnd[step] ? 1 : 0;
            default: return NONE;
        }
    }

    public int same(int a, int b) {
        Paper first = desk.get(a);
        Paper second = desk.get(b);
        if (first == null || second == null) {
            return NONE;
        }
        return likeness.makeSame(first, second) ? 1 : 0;
    }

    public int alike(int a, int step, int b) {
        Paper first = desk.get(a);
        Paper second = desk.get(b);
        if (first == null || second == null || !first.hasStep(step)) {
            return NONE;
        }
        likeness.compare(first, second);
        return likeness.firstLike(step);
    }

    public int changes(int a, int b) {
        return listChanges(changesOfOne, a, b) ? changesOfOne.count : NONE;
    }

    private boolean listChanges(Changes into, int a, int b) {
        Paper first = desk.get(a);
        Paper second = desk.get(b);
        if (first == null || second == null) {
            return false;
        }
        into.list(first, second);
        return true;
    }

    public int change(int a, int b, int i, int what) {
        if (!listChanges(changesOfOne, a, b) || !changesOfOne.has(i)) {
            return NONE;
        }
        switch (what) {
            case 0: return changesOfOne.kinds[i];
            case 1: return changesOfOne.steps[i];
            case 2: return changesOfOne.isSlip(i) ? 1 : 0;
            default: return NONE;
        }
    }

    public int least(int a, int b) {
        Paper first = desk.get(a);
        Paper second = desk.get(b);
        if (first == null || second == null) {
            return NONE;
        }
        if (first.steps > Likeness.MOST_MATCHED || second.steps > Likeness.MOST_MATCHED) {
            return SPENT;
        }
        return likeness.leastWeight(first, second);
    }

    public int does(int a, int b, int set) {
        if (!listChanges(changesOfOne, a, b)) {
            return GAP;
        }
        int bits = Math.min(changesOfOne.count, BITS);
        if (set >>> bits != 0) {
            return GAP;
        }
        for (int i = 0; i < changesOfOne.count; i++) {
            chosen[i] = i < bits && (set >>> i & 1) == 1;
        }
        doChosen();
        return draft.putInOrder() ? draft.sheet.steps : NONE;
    }

    private void doChosen() {
        draft.startFrom(changesOfOne.from);
        for (int i = 0; i < changesOfOne.count; i++) {
            if (chosen[i]) {
                changesOfOne.doOn(draft, i);
            }
        }
    }

    public int join(int base, int one, int other) {
        Paper first = desk.get(base);
        Paper second = desk.get(one);
        Paper third = desk.get(other);
        if (first == null || second == null || third == null) {
            return NONE;
        }
        desk.joining.begin(first, second, third);
        joiner.forgetBest();
        return desk.joining.quarrels;
    }

    public int quarrel(int i, int what) {
        Joining joining = desk.joining;
        if (!joining.hasQuarrel(i)) {
            return NONE;
        }
        switch (what) {
            case 0: return joining.quarrelStep[i];
            case 1: return joining.quarrelField[i];
            case 2: return joining.sides[i];
            case 3: return joiner.isOfWords(joining, i) ? 1 : 0;
            default: return NONE;
        }
    }

    public boolean settle(int i, int side) {
        if (!desk.joining.hasQuarrel(i) || side < 0 || side > 2) {
            return false;
        }
        desk.joining.sides[i] = side;
        return true;
    }

    public int joined() {
        Joining joining = desk.joining;
        if (!joining.isThere() || desk.isFull()) {
            return NONE;
        }
        if (joining.settledCount() < joining.quarrels) {
            return -2;
        }
        if (!joiner.joinUp(joining, joining.sides, sparePaper)) {
            return -3;
        }
        return keepSparePaper();
    }

    public int best(int what) {
        Joining joining = desk.joining;
        if (!joining.isThere()) {
            return GAP;
        }
        if (joining.quarrels > Joiner.MOST_TRIED) {
            return SPENT;
        }
        joiner.seekBest(joining, wanted);
        if (!joiner.bestFound) {
            return GAP;
        }
        if (what == -1) {
            return joiner.bestWant;
        }
        return joining.hasQuarrel(what) ? joiner.bestRow[what] : GAP;
    }

    public int left(int what) {
        Joining joining = desk.joining;
        if (!joining.isThere()) {
            return NONE;
        }
        switch (what) {
            case 0: return joining.leftByBoth();
            case 1: return joining.unchanged();
            case 2: return joining.putByBoth();
            default: return NONE;
        }
    }

    public int ruin(int base, int one, int other, int what) {
        if (!listChanges(changesOfOne, base, one) || !listChanges(changesOfOther, base, other)) {
            return NONE;
        }
        if (what != 0 && what != 1) {
            return NONE;
        }
        int pairs = 0;
        for (int i = 0; i < changesOfOther.count; i++) {
            chosen[i] = isGoodAlone(changesOfOther, i);
        }
        for (int i = 0; i < changesOfOne.count; i++) {
            boolean good = isGoodAlone(changesOfOne, i);
            for (int j = 0; good && j < changesOfOther.count; j++) {
                if (chosen[j] && ruinTogether(i, j)) {
                    if (what == 1) {
                        return 100 * i + j;
                    }
                    pairs++;
                }
            }
        }
        return what == 0 ? pairs : NONE;
    }

    private boolean isGoodAlone(Changes changes, int i) {
        draft.startFrom(changes.from);
        changes.doOn(draft, i);
        return draft.putInOrder();
    }

    private boolean ruinTogether(int i, int j) {
        draft.startFrom(changesOfOne.from);
        changesOfOne.doOn(draft, i);
        changesOfOther.doOn(draft, j);
        return !draft.putInOrder();
    }

    public int law(int law, int base, int one, int other, int third) {
        Paper b = desk.get(base);
        Paper x = desk.get(one);
        if (law < 0 || law > 2 || b == null || x == null) {
            return NONE;
        }
        if (law == 0) {
            return joiner.holdsAgain(b, x) ? 1 : 0;
        }
        Paper y = desk.get(other);
        if (y == null) {
            return NONE;
        }
        if (law == 1) {
            return joiner.holdsTurned(b, x, y) ? 1 : 0;
        }
        Paper z = desk.get(third);
        if (z == null) {
            return NONE;
        }
        return joiner.holdsByTwos(b, x, y, z) ? 1 : 0;
    }

    public int three(int base, int one, int other, int third, int way) {
        Paper b = desk.get(base);
        Paper x = desk.get(one);
        Paper y = desk.get(other);
        Paper z = desk.get(third);
        if (b == null || x == null || y == null || z == null) {
            return NONE;
        }
        switch (way) {
            case 0: return joiner.quarrelsByTwos(b, x, y, z);
            case 1: return joiner.quarrelsByTwos(b, x, z, y);
            case 2: return joiner.quarrelsByTwos(b, y, z, x);
            default: return NONE;
        }
    }

    public int leans(int base, int paper, int i) {
        if (!listChanges(changesOfOne, base, paper) || !changesOfOne.has(i)) {
            return NONE;
        }
        for (int k = 0; k < changesOfOne.count; k++) {
            chosen[k] = k != i;
        }
        int went = 0;
        for (int round = 0; round < Changes.MOST; round++) {
            doChosen();
            int next = draft.putInOrder() ? NONE : changeToBlame();
            if (next == NONE) {
                return went;
            }
            chosen[next] = false;
            went++;
        }
        return went;
    }

    /** The first CHANGE still done that gave the first STEP at fault the NEEDS it has. */
    private int changeToBlame() {
        int lost = draft.firstLost();
        if (lost == NONE) {
            return NONE;
        }
        long name = draft.sheet.makes[lost];
        for (int k = 0; k < changesOfOne.count; k++) {
            if (chosen[k] && changesOfOne.givesNeeds(k) && changesOfOne.nameOf(k) == name) {
                return k;
            }
        }
        return NONE;
    }

    public int begun(int old, int n, int paper, int what) {
        Paper first = desk.get(old);
        Paper second = desk.get(paper);
        if (first == null || second == null || n < 0 || n > first.steps) {
            return NONE;
        }
        likeness.compare(first, second);
        if (what == 0) {
            return likeness.notLikeAny(n);
        }
        return what == 1 ? likeness.likeNone(n) : NONE;
    }

    public boolean tear(int paper) {
        if (desk.get(paper) == null) {
            return false;
        }
        desk.remove(paper);
        joiner.forgetBest();
        return true;
    }

    public int image(int box) {
        if (box < 0 || box >= BOXES) {
            return NONE;
        }
        boxes[box].copyFrom(desk);
        return desk.count;
    }

    public int back(int box) {
        if (box < 0 || box >= BOXES || boxes[box].count == NONE) {
            return NONE;
        }
        desk.copyFrom(boxes[box]);
        joiner.forgetBest();
        return desk.count;
    }

    public int about(int what) {
        boolean joins = desk.joining.isThere();
        switch (what) {
            case 0: return desk.count;
            case 1: return wanted.units;
            case 2: return joins ? desk.joining.quarrels : NONE;
            case 3: return joins ? desk.joining.settledCount() : NONE;
            case 4: return taped;
            default: return NONE;
        }
    }

    /** STEPS in an order. NAMES are numbers: a byte for each letter, so that they compare at once. */
    private static final class Paper {
        static final int MOST_STEPS = 12;
        static final int MOST_NEEDS = 4;
        static final int VERB = 1;
        static final int MUCH = 2;
        static final int LONG = 3;
        static final int NEEDS = 4;

        final long[] makes;
        final long[] verbs;
        final int[] much;
        final int[] lasts;
        final int[] needCount;
        /** MOST_NEEDS places for each STEP. */
        final long[] needs;
        /** For each NEED the STEP that MAKES it; NONE: it is RAW. */
        final int[] makers;
        final boolean[] isEnd;
        /** The most long of a row of STEPS that ends with this one. */
        final int[] reach;
        int steps;
        int ends;
        int path;
        int allMuch;
        int allLong;

        Paper(int room) {
            int places = Math.max(room, 0);
            makes = new long[places];
            verbs = new long[places];
            much = new int[places];
            lasts = new int[places];
            needCount = new int[places];
            needs = new long[places * MOST_NEEDS];
            makers = new int[places * MOST_NEEDS];
            isEnd = new boolean[places];
            reach = new int[places];
        }

        boolean hasStep(int step) {
            return step >= 0 && step < steps;
        }

        int find(long name) {
            for (int i = 0; i < steps; i++) {
                if (makes[i] == name) {
                    return i;
                }
            }
            return NONE;
        }

        boolean needsName(int step, long name) {
            for (int k = 0; k < needCount[step]; k++) {
                if (needs[step * MOST_NEEDS + k] == name) {
                    return true;
                }
            }
            return false;
        }

        int madeNeeds(int step) {
            int made = 0;
            for (int k = 0; k < needCount[step]; k++) {
                if (makers[step * MOST_NEEDS + k] != NONE) {
                    made++;
                }
            }
            return made;
        }

        int sharedNeeds(int step, Paper other, int otherStep) {
            int shared = 0;
            for (int k = 0; k < needCount[step]; k++) {
                if (other.needsName(otherStep, needs[step * MOST_NEEDS + k])) {
                    shared++;
                }
            }
            return shared;
        }

        /** The fields in which two STEPS are not alike: bit VERB, MUCH, LONG, NEEDS. */
        int differences(int step, Paper other, int otherStep) {
            int fields = 0;
            if (verbs[step] != other.verbs[otherStep]) {
                fields |= 1 << VERB;
            }
            if (much[step] != other.much[otherStep]) {
                fields |= 1 << MUCH;
            }
            if (lasts[step] != other.lasts[otherStep]) {
                fields |= 1 << LONG;
            }
            if (needCount[step] != other.needCount[otherStep]
                    || sharedNeeds(step, other, otherStep) != needCount[step]) {
                fields |= 1 << NEEDS;
            }
            return fields;
        }

        void takeStep(int step, Paper from, int fromStep) {
            makes[step] = from.makes[fromStep];
            verbs[step] = from.verbs[fromStep];
            much[step] = from.much[fromStep];
            lasts[step] = from.lasts[fromStep];
            needCount[step] = from.needCount[fromStep];
            for (int k = 0; k < MOST_NEEDS; k++) {
                needs[step * MOST_NEEDS + k] = from.needs[fromStep * MOST_NEEDS + k];
            }
        }

        /** All that follows from the STEPS, once they stand in their order. */
        void workOut() {
            ends = 0;
            path = 0;
            allMuch = 0;
            allLong = 0;
            for (int i = 0; i < steps; i++) {
                isEnd[i] = true;
                linkNeeds(i);
                path = Math.max(path, reach[i]);
                allMuch += much[i];
                allLong += lasts[i];
            }
            for (int i = 0; i < steps; i++) {
                ends += isEnd[i] ? 1 : 0;
            }
        }

        private void linkNeeds(int step) {
            int longest = 0;
            for (int k = 0; k < needCount[step]; k++) {
                int at = step * MOST_NEEDS + k;
                int maker = find(needs[at]);
                makers[at] = maker < step ? maker : NONE;
                if (makers[at] != NONE) {
                    isEnd[maker] = false;
                    longest = Math.max(longest, reach[maker]);
                }
            }
            reach[step] = longest + lasts[step];
        }
    }

    /** The TOKENS of a text, one after the other, and the first FAULT found in it. */
    private static final class Scanner {
        static final int BAD = 0;
        static final int END = 1;
        static final int NAME = 2;
        static final int NUMBER = 3;
        /** A sign's kind is its byte; a word that stands for itself has WORD and its place in WORDS. */
        static final int WORD = 100;
        static final int CALL = 100;
        static final int MAKE = 101;
        static final int BY = 102;
        static final int OF = 103;
        static final int MUCH = 104;
        static final int LONG = 105;
        static final int WANT = 106;
        static final int STEPS = 107;
        static final int PATH = 108;
        static final int ENDS = 109;
        static final int HAS = 110;
        static final int AND = 111;
        static final int OR = 112;
        static final int NOT = 113;
        static final String WORDS = "call make by of much long want steps path ends has and or not";
        static final int WORD_COUNT = 14;
        static final String SIGNS = ";()<>=+-*";
        static final int MOST_LETTERS = 8;
        static final int MOST_DIGITS = 4;
        /** Stands for all numbers of too many digits, those with 0 ahead too: beyond all that can be. */
        static final int BEYOND = 10000;

        final long[] words;
        int[] bytes;
        int length;
        int at;
        int kind;
        int place;
        int number;
        long name;
        int fault;
        int faultPlace;

        Scanner() {
            words = new long[WORD_COUNT];
            bytes = new int[0];
            faultPlace = NONE;
            int word = 0;
            for (int i = 0; i < WORDS.length(); i++) {
                char letter = WORDS.charAt(i);
                if (letter == ' ') {
                    word++;
                } else if (word < WORD_COUNT) {
                    words[word] = words[word] << 8 | letter;
                }
            }
        }

        void start(int[] text, int textLength) {
            bytes = text;
            length = Math.min(textLength, text.length);
            at = 0;
            fault = 0;
            faultPlace = NONE;
            next();
        }

        void next() {
            while (at < length && (bytes[at] == 32 || bytes[at] == 10)) {
                at++;
            }
            place = at;
            if (at >= length) {
                kind = END;
            } else if (isLetter(bytes[at])) {
                readWord();
            } else if (isDigit(bytes[at])) {
                readNumber();
            } else {
                kind = SIGNS.indexOf((char) bytes[at]) >= 0 ? bytes[at] : BAD;
                at++;
            }
        }

        private static boolean isLetter(int sign) {
            return sign >= 'a' && sign <= 'z';
        }

        private static boolean isDigit(int sign) {
            return sign >= '0' && sign <= '9';
        }

        private void readWord() {
            name = 0;
            while (at < length && isLetter(bytes[at])) {
                name = name << 8 | bytes[at];
                at++;
            }
            kind = NAME;
            for (int i = 0; i < WORD_COUNT; i++) {
                if (words[i] == name) {
                    kind = WORD + i;
                }
            }
            if (at - place > MOST_LETTERS) {
                kind = BAD;
            }
        }

        private void readNumber() {
            number = 0;
            while (at < length && isDigit(bytes[at])) {
                number = number * 10 + bytes[at] - '0';
                at++;
            }
            if (at - place > MOST_DIGITS) {
                number = BEYOND;
            }
            kind = at < length && isLetter(bytes[at]) ? BAD : NUMBER;
        }

        /** A FAULT at the TOKEN that is read now; always false, for the readers to hand on. */
        boolean blame(int code) {
            fault = code;
            faultPlace = place;
            return false;
        }

        boolean refuse() {
            return blame(kind == BAD ? 1 : 2);
        }

        boolean pass(int wanted) {
            if (kind != wanted) {
                return refuse();
            }
            next();
            return true;
        }
    }

    /** Reads a text as a PAPER. */
    private static final class PaperReader {
        static final int MOST_CALLS = 6;
        static final int MOST_NUMBER = 999;

        final Scanner scanner;
        final long[] called;
        final long[] meant;
        int calls;

        PaperReader(Scanner scanner) {
            this.scanner = scanner;
            called = new long[MOST_CALLS];
            meant = new long[MOST_CALLS];
        }

        boolean read(Paper into) {
            calls = 0;
            into.steps = 0;
            for (int line = 0; line <= MOST_CALLS && scanner.kind == Scanner.CALL; line++) {
                if (!readCall()) {
                    return false;
                }
            }
            for (int line = 0; line <= Paper.MOST_STEPS && scanner.kind == Scanner.MAKE; line++) {
                if (!readMake(into)) {
                    return false;
                }
            }
            if (scanner.kind != Scanner.END) {
                return scanner.refuse();
            }
            into.workOut();
            return true;
        }

        private boolean readCall() {
            if (calls >= MOST_CALLS) {
                return scanner.refuse();
            }
            scanner.next();
            if (scanner.kind != Scanner.NAME) {
                return scanner.refuse();
            }
            if (findCall(scanner.name) != NONE) {
                return scanner.blame(3);
            }
            called[calls] = scanner.name;
            scanner.next();
            meant[calls] = scanner.name;
            if (!scanner.pass(Scanner.NAME) || !scanner.pass(';')) {
                return false;
            }
            calls++;
            return true;
        }

        private int findCall(long name) {
            for (int i = 0; i < calls; i++) {
                if (called[i] == name) {
                    return i;
                }
            }
            return NONE;
        }

        private long asCalled(long name) {
            int call = findCall(name);
            return call == NONE ? name : meant[call];
        }

        private boolean readMake(Paper into) {
            int step = into.steps;
            if (step >= Paper.MOST_STEPS) {
                return scanner.refuse();
            }
            scanner.next();
            if (scanner.kind != Scanner.NAME) {
                return scanner.refuse();
            }
            into.makes[step] = asCalled(scanner.name);
            if (into.find(into.makes[step]) != NONE) {
                return scanner.blame(3);
            }
            scanner.next();
            if (!scanner.pass(Scanner.BY)) {
                return false;
            }
            into.verbs[step] = asCalled(scanner.name);
            if (!scanner.pass(Scanner.NAME) || !scanner.pass(Scanner.OF) || !readNeeds(into, step)) {
                return false;
            }
            into.much[step] = scanner.pass(Scanner.MUCH) ? readNumber() : NONE;
            if (into.much[step] == NONE) {
                return false;
            }
            into.lasts[step] = scanner.pass(Scanner.LONG) ? readNumber() : NONE;
            if (into.lasts[step] == NONE || !scanner.pass(';')) {
                return false;
            }
            into.steps++;
            return true;
        }

        private boolean readNeeds(Paper into, int step) {
            into.needCount[step] = 0;
            if (scanner.kind != Scanner.NAME) {
                return scanner.refuse();
            }
            for (int k = 0; k <= Paper.MOST_NEEDS && scanner.kind == Scanner.NAME; k++) {
                long need = asCalled(scanner.name);
                if (k == Paper.MOST_NEEDS) {
                    return scanner.refuse();
                }
                if (into.needsName(step, need)) {
                    return scanner.blame(3);
                }
                if (need == into.makes[step]) {
                    return scanner.blame(6);
                }
                into.needs[step * Paper.MOST_NEEDS + k] = need;
                into.needCount[step]++;
                scanner.next();
            }
            return true;
        }

        /** NONE: a FAULT. */
        private int readNumber() {
            int number = scanner.number;
            if (scanner.kind == Scanner.NUMBER && number > MOST_NUMBER) {
                scanner.blame(4);
                return NONE;
            }
            return scanner.pass(Scanner.NUMBER) ? number : NONE;
        }
    }

    /** What is wanted of a PAPER, in the order in which it is reckoned (both sides, then their sign). */
    private static final class Want {
        static final int MOST_UNITS = 40;
        static final int NUMBER = 0;
        static final int STEPS = 1;
        static final int MUCH = 2;
        static final int LONG = 3;
        static final int PATH = 4;
        static final int ENDS = 5;
        static final int HAS = 6;
        static final int NOT = 7;
        static final int TIMES = 8;
        static final int PLUS = 9;
        static final int MINUS = 10;
        static final int LESS = 11;
        static final int MORE = 12;
        static final int EQUAL = 13;
        static final int AND = 14;
        static final int OR = 15;

        final int[] codes;
        final long[] values;
        final int[] stack;
        int length;
        int units;

        Want() {
            codes = new int[WANT_BYTES];
            values = new long[WANT_BYTES];
            stack = new int[MOST_UNITS + 1];
        }

        void add(int code, long value) {
            if (length < WANT_BYTES) {
                codes[length] = code;
                values[length] = value;
                length++;
            }
        }

        int valueOf(Paper paper) {
            int top = 0;
            for (int i = 0; i < length; i++) {
                if (codes[i] < NOT) {
                    top = Math.min(top, MOST_UNITS);
                    stack[top] = unit(codes[i], values[i], paper);
                    top++;
                } else if (codes[i] == NOT && top > 0) {
                    stack[top - 1] = stack[top - 1] == 0 ? 1 : 0;
                } else if (top > 1) {
                    top--;
                    stack[top - 1] = reckon(codes[i], stack[top - 1], stack[top]);
                }
            }
            return top > 0 ? stack[0] : 0;
        }

        private static int unit(int code, long value, Paper paper) {
            switch (code) {
                case STEPS: return paper.steps;
                case MUCH: return paper.allMuch;
                case LONG: return paper.allLong;
                case PATH: return paper.path;
                case ENDS: return paper.ends;
                case HAS: return paper.find(value) == NONE ? 0 : 1;
                default: return (int) value;
            }
        }

        private static int reckon(int code, int x, int y) {
            switch (code) {
                case TIMES: return x * y;
                case PLUS: return x + y;
                case MINUS: return x - y;
                case LESS: return x < y ? 1 : 0;
                case MORE: return x > y ? 1 : 0;
                case EQUAL: return x == y ? 1 : 0;
                case AND: return x != 0 && y != 0 ? 1 : 0;
                default: return x != 0 || y != 0 ? 1 : 0;
            }
        }
    }

    /** Reads a text as a WANT. The depth counts the brackets and nots that a place stands within. */
    private static final class WantReader {
        static final int MOST_DEPTH = 7;
        static final int MOST_NUMBER = 9999;

        final Scanner scanner;
        Want into;

        WantReader(Scanner scanner) {
            this.scanner = scanner;
        }

        boolean read(Want fresh) {
            into = fresh;
            into.length = 0;
            into.units = 0;
            if (!scanner.pass(Scanner.WANT) || !readAny(0) || !scanner.pass(';')) {
                return false;
            }
            return scanner.kind == Scanner.END || scanner.refuse();
        }

        private boolean readAny(int depth) {
            boolean good = readBoth(depth);
            for (int n = 0; good && n < WANT_BYTES && scanner.kind == Scanner.OR; n++) {
                scanner.next();
                good = readBoth(depth);
                into.add(Want.OR, 0);
            }
            return good;
        }

        private boolean readBoth(int depth) {
            boolean good = readOne(depth);
            for (int n = 0; good && n < WANT_BYTES && scanner.kind == Scanner.AND; n++) {
                scanner.next();
                good = readOne(depth);
                into.add(Want.AND, 0);
            }
            return good;
        }

        private boolean readOne(int depth) {
            if (scanner.kind == Scanner.NOT) {
                if (depth >= MOST_DEPTH) {
                    return scanner.refuse();
                }
                scanner.next();
                boolean good = readOne(depth + 1);
                into.add(Want.NOT, 0);
                return good;
            }
            if (!readSum(depth)) {
                return false;
            }
            int relation = relationOf(scanner.kind);
            if (relation == NONE) {
                return true;
            }
            scanner.next();
            boolean good = readSum(depth);
            into.add(relation, 0);
            return good;
        }

        private static int relationOf(int kind) {
            switch (kind) {
                case '<': return Want.LESS;
                case '>': return Want.MORE;
                case '=': return Want.EQUAL;
                default: return NONE;
            }
        }

        private boolean readSum(int depth) {
            boolean good = readTerm(depth);
            for (int n = 0; good && n < WANT_BYTES && (scanner.kind == '+' || scanner.kind == '-'); n++) {
                int code = scanner.kind == '+' ? Want.PLUS : Want.MINUS;
                scanner.next();
                good = readTerm(depth);
                into.add(code, 0);
            }
            return good;
        }

        private boolean readTerm(int depth) {
            boolean good = readUnit(depth);
            for (int n = 0; good && n < WANT_BYTES && scanner.kind == '*'; n++) {
                scanner.next();
                good = readUnit(depth);
                into.add(Want.TIMES, 0);
            }
            return good;
        }

        private boolean readUnit(int depth) {
            if (into.units >= Want.MOST_UNITS) {
                return scanner.refuse();
            }
            into.units++;
            if (scanner.kind == '(') {
                if (depth >= MOST_DEPTH) {
                    return scanner.refuse();
                }
                scanner.next();
                return readAny(depth + 1) && scanner.pass(')');
            }
            if (scanner.kind == Scanner.HAS) {
                scanner.next();
                into.add(Want.HAS, scanner.name);
                return scanner.pass(Scanner.NAME);
            }
            int code = plainUnit(scanner.kind);
            if (code == NONE) {
                return scanner.refuse();
            }
            if (code == Want.NUMBER && scanner.number > MOST_NUMBER) {
                return scanner.blame(4);
            }
            into.add(code, scanner.number);
            scanner.next();
            return true;
        }

        private static int plainUnit(int kind) {
            switch (kind) {
                case Scanner.NUMBER: return Want.NUMBER;
                case Scanner.STEPS: return Want.STEPS;
                case Scanner.MUCH: return Want.MUCH;
                case Scanner.LONG: return Want.LONG;
                case Scanner.PATH: return Want.PATH;
                case Scanner.ENDS: return Want.ENDS;
                default: return NONE;
            }
        }
    }

    /** Which STEPS of two PAPERS are ALIKE, and the least weight of matching them. */
    private static final class Likeness {
        static final int MOST_MATCHED = 8;
        static final int UNMATCHED = 3;
        private static final int WIDTH = Paper.MOST_STEPS;

        final boolean[] alikes;
        final boolean[] used;
        final int[] weights;
        final int[] lightest;
        Paper first;
        Paper second;

        Likeness() {
            alikes = new boolean[WIDTH * WIDTH];
            used = new boolean[WIDTH];
            weights = new int[MOST_MATCHED * MOST_MATCHED];
            lightest = new int[1 << MOST_MATCHED];
        }

        /** In order, as a STEP leans on none but those ahead of it. */
        void compare(Paper one, Paper other) {
            first = one;
            second = other;
            for (int i = 0; i < first.steps; i++) {
                for (int j = 0; j < second.steps; j++) {
                    alikes[i * WIDTH + j] = first.verbs[i] == second.verbs[j]
                            && first.much[i] == second.much[j] && first.lasts[i] == second.lasts[j]
                            && first.needCount[i] == second.needCount[j] && needsMatch(i, j);
                }
            }
        }

        /** ALIKE parts things into kinds, so the first free NEED that fits is as good as any. */
        private boolean needsMatch(int i, int j) {
            forgetUsed();
            for (int k = 0; k < first.needCount[i]; k++) {
                int mate = NONE;
                for (int l = 0; l < second.needCount[j] && mate == NONE; l++) {
                    if (!used[l] && needsAlike(i * Paper.MOST_NEEDS + k, j * Paper.MOST_NEEDS + l)) {
                        mate = l;
                    }
                }
                if (mate == NONE) {
                    return false;
                }
                used[mate] = true;
            }
            return true;
        }

        private boolean needsAlike(int need, int otherNeed) {
            int maker = first.makers[need];
            int otherMaker = second.makers[otherNeed];
            if (maker == NONE || otherMaker == NONE) {
                return maker == otherMaker && first.needs[need] == second.needs[otherNeed];
            }
            return alikes[maker * WIDTH + otherMaker];
        }

        private void forgetUsed() {
            for (int i = 0; i < WIDTH; i++) {
                used[i] = false;
            }
        }

        boolean makeSame(Paper one, Paper other) {
            compare(one, other);
            if (first.ends != second.ends) {
                return false;
            }
            forgetUsed();
            for (int i = 0; i < first.steps; i++) {
                if (first.isEnd[i]) {
                    int mate = freeEndLike(i);
                    if (mate == NONE) {
                        return false;
                    }
                    used[mate] = true;
                }
            }
            return true;
        }

        private int freeEndLike(int i) {
            for (int j = 0; j < second.steps; j++) {
                if (second.isEnd[j] && !used[j] && alikes[i * WIDTH + j]) {
                    return j;
                }
            }
            return NONE;
        }

        int firstLike(int step) {
            for (int j = 0; j < second.steps; j++) {
                if (alikes[step * WIDTH + j]) {
                    return j;
                }
            }
            return NONE;
        }

        /** How many STEPS of the second PAPER are ALIKE to none of the first n. */
        int notLikeAny(int n) {
            int others = 0;
            for (int j = 0; j < second.steps; j++) {
                boolean like = false;
                for (int i = 0; i < n; i++) {
                    like = like || alikes[i * WIDTH + j];
                }
                others += like ? 0 : 1;
            }
            return others;
        }

        /** How many of the first n are ALIKE to no STEP of the second PAPER. */
        int likeNone(int n) {
            int wasted = 0;
            for (int i = 0; i < n; i++) {
                wasted += firstLike(i) == NONE ? 1 : 0;
            }
            return wasted;
        }

        /** For each set of STEPS of the other PAPER the least weight with just these matched. */
        int leastWeight(Paper one, Paper other) {
            weigh(one, other);
            int sets = 1 << other.steps;
            int never = 1 << 20;
            for (int set = 0; set < sets; set++) {
                lightest[set] = set == 0 ? 0 : never;
            }
            for (int i = 0; i < one.steps; i++) {
                for (int set = sets - 1; set >= 0; set--) {
                    int weight = lightest[set] + UNMATCHED;
                    for (int j = 0; j < other.steps; j++) {
                        if ((set >>> j & 1) == 1) {
                            weight = Math.min(weight, lightest[set ^ 1 << j] + weights[i * MOST_MATCHED + j]);
                        }
                    }
                    lightest[set] = weight;
                }
            }
            int least = never;
            for (int set = 0; set < sets; set++) {
                int unmatched = other.steps - Integer.bitCount(set);
                least = Math.min(least, lightest[set] + UNMATCHED * unmatched);
            }
            return least;
        }

        private void weigh(Paper one, Paper other) {
            for (int i = 0; i < one.steps; i++) {
                for (int j = 0; j < other.steps; j++) {
                    int weight = one.needCount[i] + other.needCount[j] - 2 * one.sharedNeeds(i, other, j);
                    weight += one.makes[i] == other.makes[j] ? 0 : 1;
                    weight += one.verbs[i] == other.verbs[j] ? 0 : 2;
                    weight += one.much[i] == other.much[j] ? 0 : 1;
                    weight += one.lasts[i] == other.lasts[j] ? 0 : 1;
                    weights[i * MOST_MATCHED + j] = weight;
                }
            }
        }
    }

    /** The CHANGES from a PAPER to another one. */
    private static final class Changes {
        static final int MOST = 4 * Paper.MOST_STEPS + Paper.MOST_STEPS;
        static final int OUT = 0;
        static final int PUT = 5;
        private static final int MOST_SIGNS = 10;

        final int[] kinds;
        final int[] steps;
        final int[] signs;
        final int[] otherSigns;
        int count;
        Paper from;
        Paper to;

        Changes() {
            kinds = new int[MOST];
            steps = new int[MOST];
            signs = new int[MOST_SIGNS];
            otherSigns = new int[MOST_SIGNS];
        }

        boolean has(int i) {
            return i >= 0 && i < count;
        }

        void list(Paper first, Paper second) {
            from = first;
            to = second;
            count = 0;
            for (int i = 0; i < from.steps; i++) {
                int there = to.find(from.makes[i]);
                if (there == NONE) {
                    add(OUT, i);
                }
                int altered = there == NONE ? 0 : from.differences(i, to, there);
                for (int field = Paper.VERB; field <= Paper.NEEDS; field++) {
                    if ((altered >>> field & 1) == 1) {
                        add(field, i);
                    }
                }
            }
            for (int i = 0; i < to.steps; i++) {
                if (from.find(to.makes[i]) == NONE) {
                    add(PUT, i);
                }
            }
        }

        private void add(int kind, int step) {
            if (count < MOST) {
                kinds[count] = kind;
                steps[count] = step;
                count++;
            }
        }

        long nameOf(int i) {
            return kinds[i] == PUT ? to.makes[steps[i]] : from.makes[steps[i]];
        }

        boolean givesNeeds(int i) {
            return kinds[i] == PUT || kinds[i] == Paper.NEEDS;
        }

        /**
         * In order of numbers it comes to the same as ALTERED, OUT, PUT: what is OUT or PUT is not ALTERED
         * by the same PAPER, and an ALTERED STEP that another PAPER left is gone either way.
         */
        void doOn(Draft draft, int i) {
            int there = draft.sheet.find(nameOf(i));
            if (kinds[i] == PUT) {
                if (there == NONE) {
                    draft.add(to, steps[i]);
                }
            } else if (there != NONE && kinds[i] == OUT) {
                draft.drop(there);
            } else if (there != NONE) {
                int source = to.find(nameOf(i));
                if (source != NONE) {
                    draft.take(kinds[i], there, to, source);
                }
            }
        }

        boolean isSlip(int i) {
            int there = to.find(nameOf(i));
            if (there == NONE) {
                return false;
            }
            int step = steps[i];
            switch (kinds[i]) {
                case Paper.VERB: return differBySlip(from.verbs[step], to.verbs[there], 256);
                case Paper.MUCH: return differBySlip(from.much[step], to.much[there], 10);
                case Paper.LONG: return differBySlip(from.lasts[step], to.lasts[there], 10);
                default: return false;
            }
        }

        private boolean differBySlip(long one, long other, int radix) {
            int length = spell(one, radix, signs);
            int otherLength = spell(other, radix, otherSigns);
            int ahead = 0;
            while (ahead < length && ahead < otherLength && signs[ahead] == otherSigns[ahead]) {
                ahead++;
            }
            if (length == otherLength) {
                return sameFrom(ahead + 1, ahead + 1, length, otherLength)
                        || ahead + 1 < length && signs[ahead] == otherSigns[ahead + 1]
                        && signs[ahead + 1] == otherSigns[ahead]
                        && sameFrom(ahead + 2, ahead + 2, length, otherLength);
            }
            return length < otherLength
                    ? sameFrom(ahead, ahead + 1, length, otherLength)
                    : sameFrom(ahead + 1, ahead, length, otherLength);
        }

        /** The signs from the last one on: whether one slip parts two rows is the same from either end. */
        private static int spell(long value, int radix, int[] into) {
            int length = 0;
            long rest = value;
            long divisor = Math.max(radix, 2);
            do {
                into[length] = (int) (rest % divisor);
                rest /= divisor;
                length++;
            } while (rest > 0 && length < MOST_SIGNS);
            return length;
        }

        private boolean sameFrom(int i, int j, int length, int otherLength) {
            if (length - i != otherLength - j) {
                return false;
            }
            for (int k = 0; i + k < length; k++) {
                if (signs[i + k] != otherSigns[j + k]) {
                    return false;
                }
            }
            return true;
        }
    }

    /** STEPS on their way to a PAPER, and which of their NEEDS were MADE where they come from. */
    private static final class Draft {
        static final int MOST = 3 * Paper.MOST_STEPS;

        final Paper sheet;
        final boolean[] wasMade;
        final int[] order;
        final boolean[] placed;

        Draft() {
            sheet = new Paper(MOST);
            wasMade = new boolean[MOST * Paper.MOST_NEEDS];
            order = new int[Paper.MOST_STEPS];
            placed = new boolean[Paper.MOST_STEPS];
        }

        void clear() {
            sheet.steps = 0;
        }

        void startFrom(Paper paper) {
            clear();
            for (int i = 0; i < paper.steps; i++) {
                add(paper, i);
            }
        }

        void add(Paper from, int step) {
            if (sheet.steps < MOST) {
                sheet.takeStep(sheet.steps, from, step);
                takeNeeds(sheet.steps, from, step);
                sheet.steps++;
            }
        }

        private void takeNeeds(int at, Paper from, int step) {
            sheet.needCount[at] = from.needCount[step];
            for (int k = 0; k < from.needCount[step]; k++) {
                int need = step * Paper.MOST_NEEDS + k;
                sheet.needs[at * Paper.MOST_NEEDS + k] = from.needs[need];
                wasMade[at * Paper.MOST_NEEDS + k] = from.makers[need] != NONE;
            }
        }

        void take(int field, int at, Paper from, int step) {
            switch (field) {
                case Paper.VERB: sheet.verbs[at] = from.verbs[step]; break;
                case Paper.MUCH: sheet.much[at] = from.much[step]; break;
                case Paper.LONG: sheet.lasts[at] = from.lasts[step]; break;
                case Paper.NEEDS: takeNeeds(at, from, step); break;
                default: break;
            }
        }

        void drop(int at) {
            for (int i = at; i + 1 < sheet.steps; i++) {
                sheet.takeStep(i, sheet, i + 1);
                for (int k = 0; k < Paper.MOST_NEEDS; k++) {
                    wasMade[i * Paper.MOST_NEEDS + k] = wasMade[(i + 1) * Paper.MOST_NEEDS + k];
                }
            }
            sheet.steps--;
        }

        /** Links all NEEDS to who MAKES them; the first STEP with one that was MADE and is RAW now. */
        int firstLost() {
            int lost = NONE;
            for (int i = 0; i < sheet.steps; i++) {
                for (int k = 0; k < sheet.needCount[i]; k++) {
                    int at = i * Paper.MOST_NEEDS + k;
                    sheet.makers[at] = sheet.find(sheet.needs[at]);
                    if (lost == NONE && wasMade[at] && sheet.makers[at] == NONE) {
                        lost = i;
                    }
                }
            }
            return lost;
        }

        /** False: a BREACH. */
        boolean putInOrder() {
            if (sheet.steps > Paper.MOST_STEPS || firstLost() != NONE) {
                return false;
            }
            for (int i = 0; i < sheet.steps; i++) {
                placed[i] = false;
            }
            for (int n = 0; n < sheet.steps; n++) {
                int next = firstReady();
                if (next == NONE) {
                    return false;
                }
                placed[next] = true;
                order[n] = next;
            }
            return true;
        }

        private int firstReady() {
            for (int i = 0; i < sheet.steps; i++) {
                if (!placed[i] && isReady(i)) {
                    return i;
                }
            }
            return NONE;
        }

        private boolean isReady(int i) {
            for (int k = 0; k < sheet.needCount[i]; k++) {
                int maker = sheet.makers[i * Paper.MOST_NEEDS + k];
                if (maker != NONE && !placed[maker]) {
                    return false;
                }
            }
            return true;
        }

        /** Only behind putInOrder, where that was true. */
        void writeTo(Paper into) {
            into.steps = sheet.steps;
            for (int n = 0; n < sheet.steps; n++) {
                into.takeStep(n, sheet, order[n]);
            }
        }
    }

    /** A JOINING: its STEPS, by where each stands in the three PAPERS, and its QUARRELS. */
    private static final class Joining {
        static final int MOST_STEPS = 3 * Paper.MOST_STEPS;
        /** Four for each STEP that both have, one for each of BASE that but one has, and some to spare. */
        static final int MOST_QUARRELS = 64;
        static final int THERE = 0;
        static final int ALL_FIELDS = -1;

        Paper base;
        Paper one;
        Paper other;
        final int[] inBase;
        final int[] inOne;
        final int[] inOther;
        /** The fields that each side changed: bits, as in Paper.differences. */
        final int[] oneChanged;
        final int[] otherChanged;
        final int[] quarrelStep;
        final int[] quarrelField;
        final int[] sides;
        int steps;
        int quarrels;

        Joining() {
            inBase = new int[MOST_STEPS];
            inOne = new int[MOST_STEPS];
            inOther = new int[MOST_STEPS];
            oneChanged = new int[MOST_STEPS];
            otherChanged = new int[MOST_STEPS];
            quarrelStep = new int[MOST_QUARRELS];
            quarrelField = new int[MOST_QUARRELS];
            sides = new int[MOST_QUARRELS];
        }

        boolean isThere() {
            return base != null && one != null && other != null;
        }

        boolean hasQuarrel(int i) {
            return i >= 0 && i < quarrels;
        }

        void clear() {
            base = null;
            one = null;
            other = null;
            steps = 0;
            quarrels = 0;
        }

        void copyFrom(Joining from) {
            if (!from.isThere()) {
                clear();
                return;
            }
            begin(from.base, from.one, from.other);
            for (int i = 0; i < quarrels; i++) {
                sides[i] = from.sides[i];
            }
        }

        void begin(Paper first, Paper second, Paper third) {
            base = first;
            one = second;
            other = third;
            steps = 0;
            quarrels = 0;
            for (int i = 0; i < base.steps; i++) {
                addStep(base.makes[i]);
            }
            for (int i = 0; i < one.steps; i++) {
                if (base.find(one.makes[i]) == NONE) {
                    addStep(one.makes[i]);
                }
            }
            for (int i = 0; i < other.steps; i++) {
                if (base.find(other.makes[i]) == NONE && one.find(other.makes[i]) == NONE) {
                    addStep(other.makes[i]);
                }
            }
        }

        private void addStep(long name) {
            if (steps >= MOST_STEPS) {
                return;
            }
            int b = base.find(name);
            int x = one.find(name);
            int y = other.find(name);
            inBase[steps] = b;
            inOne[steps] = x;
            inOther[steps] = y;
            oneChanged[steps] = b == NONE || x == NONE ? 0 : base.differences(b, one, x);
            otherChanged[steps] = b == NONE || y == NONE ? 0 : base.differences(b, other, y);
            if (x != NONE && y != NONE) {
                int bothChanged = b == NONE ? ALL_FIELDS : oneChanged[steps] & otherChanged[steps];
                addQuarrels(one.differences(x, other, y) & bothChanged);
            } else if (oneChanged[steps] != 0 || otherChanged[steps] != 0) {
                addQuarrel(THERE);
            }
            steps++;
        }

        private void addQuarrels(int fields) {
            for (int field = Paper.VERB; field <= Paper.NEEDS; field++) {
                if ((fields >>> field & 1) == 1) {
                    addQuarrel(field);
                }
            }
        }

        private void addQuarrel(int field) {
            if (quarrels < MOST_QUARRELS) {
                quarrelStep[quarrels] = steps;
                quarrelField[quarrels] = field;
                sides[quarrels] = NONE;
                quarrels++;
            }
        }

        int settledCount() {
            int settled = 0;
            for (int i = 0; i < quarrels; i++) {
                settled += sides[i] == NONE ? 0 : 1;
            }
            return settled;
        }

        /** The side told for a QUARREL; NONE if there is no such QUARREL. */
        private int sideOf(int step, int field, int[] row) {
            for (int i = 0; i < quarrels; i++) {
                if (quarrelStep[i] == step && quarrelField[i] == field) {
                    return row[i];
                }
            }
            return NONE;
        }

        /** Puts a STEP into a draft as a row of sides settles it. */
        void drawStep(Draft draft, int step, int[] row) {
            if (inOne[step] != NONE && inOther[step] != NONE) {
                drawShared(draft, step, row);
            } else if (inBase[step] != NONE) {
                drawContested(draft, step, sideOf(step, THERE, row));
            } else if (inOne[step] != NONE) {
                draft.add(one, inOne[step]);
            } else {
                draft.add(other, inOther[step]);
            }
        }

        private void drawContested(Draft draft, int step, int side) {
            if (side == 0 && inOne[step] != NONE) {
                draft.add(one, inOne[step]);
            } else if (side == 1 && inOther[step] != NONE) {
                draft.add(other, inOther[step]);
            } else if (side == 2) {
                draft.add(base, inBase[step]);
            }
        }

        private void drawShared(Draft draft, int step, int[] row) {
            int at = draft.sheet.steps;
            if (inBase[step] != NONE) {
                draft.add(base, inBase[step]);
            } else {
                draft.add(one, inOne[step]);
            }
            for (int field = Paper.VERB; field <= Paper.NEEDS; field++) {
                int side = sideOf(step, field, row);
                if (side == NONE) {
                    side = changingSide(step, field);
                }
                if (side == 0) {
                    draft.take(field, at, one, inOne[step]);
                } else if (side == 1) {
                    draft.take(field, at, other, inOther[step]);
                }
            }
        }

        private int changingSide(int step, int field) {
            if ((oneChanged[step] >>> field & 1) == 1) {
                return 0;
            }
            return (otherChanged[step] >>> field & 1) == 1 ? 1 : 2;
        }

        int leftByBoth() {
            int left = 0;
            for (int step = 0; step < base.steps; step++) {
                left += inOne[step] == NONE && inOther[step] == NONE ? 1 : 0;
            }
            return left;
        }

        int unchanged() {
            int alike = 0;
            for (int step = 0; step < base.steps; step++) {
                if (inOne[step] != NONE && inOther[step] != NONE
                        && oneChanged[step] == 0 && otherChanged[step] == 0) {
                    alike++;
                }
            }
            return alike;
        }

        int putByBoth() {
            int put = 0;
            for (int step = base.steps; step < steps; step++) {
                put += inOne[step] != NONE && inOther[step] != NONE ? 1 : 0;
            }
            return put;
        }
    }

    /** Joins: by told sides, by the best of all, and to try LAWS. */
    private static final class Joiner {
        static final int MOST_TRIED = 6;

        final Draft draft;
        final Likeness likeness;
        final Joining trial;
        final Paper half;
        final Paper leftResult;
        final Paper rightResult;
        final int[] row;
        final int[] bestRow;
        boolean bestKnown;
        boolean bestFound;
        int bestWant;

        Joiner(Draft draft, Likeness likeness) {
            this.draft = draft;
            this.likeness = likeness;
            trial = new Joining();
            half = new Paper(Paper.MOST_STEPS);
            leftResult = new Paper(Paper.MOST_STEPS);
            rightResult = new Paper(Paper.MOST_STEPS);
            row = new int[Joining.MOST_QUARRELS];
            bestRow = new int[Joining.MOST_QUARRELS];
        }

        /** False: a BREACH. */
        boolean joinUp(Joining joining, int[] sides, Paper into) {
            draft.clear();
            for (int step = 0; step < joining.steps; step++) {
                joining.drawStep(draft, step, sides);
            }
            if (!draft.putInOrder()) {
                return false;
            }
            draft.writeTo(into);
            into.workOut();
            return true;
        }

        private void clearRow() {
            for (int i = 0; i < row.length; i++) {
                row[i] = 0;
            }
        }

        boolean isOfWords(Joining joining, int quarrel) {
            clearRow();
            if (!joinUp(joining, row, leftResult)) {
                return false;
            }
            row[quarrel] = 1;
            return joinUp(joining, row, rightResult) && likeness.makeSame(leftResult, rightResult);
        }

        void forgetBest() {
            bestKnown = false;
        }

        /** Kept until the JOINING or the WANT is another one: it is dear, and asked side by side. */
        void seekBest(Joining joining, Want want) {
            if (bestKnown) {
                return;
            }
            bestKnown = true;
            bestFound = false;
            int quarrels = Math.min(joining.quarrels, MOST_TRIED);
            int rows = 1;
            for (int i = 0; i < quarrels; i++) {
                rows *= 3;
            }
            for (int n = 0; n < rows; n++) {
                setRow(n, quarrels);
                if (joinUp(joining, row, half)) {
                    considerRow(want.valueOf(half), quarrels);
                }
            }
        }

        private void setRow(int n, int quarrels) {
            int rest = n;
            for (int i = quarrels - 1; i >= 0; i--) {
                row[i] = rest % 3;
                rest /= 3;
            }
        }

        private void considerRow(int value, int quarrels) {
            if (bestFound && value <= bestWant) {
                return;
            }
            bestFound = true;
            bestWant = value;
            for (int i = 0; i < quarrels; i++) {
                bestRow[i] = row[i];
            }
        }

        /** True: without QUARRELS and without a BREACH. */
        private boolean joinCleanly(Paper base, Paper one, Paper other, Paper into) {
            trial.begin(base, one, other);
            return trial.quarrels == 0 && joinUp(trial, trial.sides, into);
        }

        private boolean holds(boolean leftClean, boolean rightClean) {
            if (leftClean && rightClean) {
                return likeness.makeSame(leftResult, rightResult);
            }
            return leftClean == rightClean;
        }

        boolean holdsAgain(Paper base, Paper one) {
            return joinCleanly(base, one, one, leftResult) && likeness.makeSame(leftResult, one);
        }

        boolean holdsTurned(Paper base, Paper one, Paper other) {
            boolean clean = joinCleanly(base, one, other, leftResult);
            return holds(clean, joinCleanly(base, other, one, rightResult));
        }

        boolean holdsByTwos(Paper base, Paper one, Paper other, Paper third) {
            boolean clean = joinCleanly(base, one, other, half) && joinCleanly(base, half, third, leftResult);
            return holds(clean, joinCleanly(base, other, third, half) && joinCleanly(base, half, one, rightResult));
        }

        int quarrelsByTwos(Paper base, Paper one, Paper other, Paper last) {
            trial.begin(base, one, other);
            int quarrels = trial.quarrels;
            clearRow();
            if (!joinUp(trial, row, half)) {
                return GAP;
            }
            trial.begin(base, half, last);
            return quarrels + trial.quarrels;
        }
    }

    /** The PAPERS and the JOINING; the PAPERS never change, so that images share them. */
    private static final class Desk {
        static final int MOST_PAPERS = 8;

        final Paper[] papers;
        final Joining joining;
        /** NONE: nothing was ever kept here. */
        int count;

        Desk() {
            papers = new Paper[MOST_PAPERS];
            joining = new Joining();
            count = NONE;
        }

        boolean isFull() {
            return count >= MOST_PAPERS;
        }

        Paper get(int i) {
            return i >= 0 && i < count ? papers[i] : null;
        }

        int add(Paper paper) {
            if (isFull() || count < 0) {
                return NONE;
            }
            papers[count] = paper;
            count++;
            return count - 1;
        }

        void remove(int at) {
            for (int i = Math.max(at, 0); i + 1 < count; i++) {
                papers[i] = papers[i + 1];
            }
            count--;
            papers[count] = null;
            joining.clear();
        }

        void copyFrom(Desk from) {
            for (int i = 0; i < MOST_PAPERS; i++) {
                papers[i] = from.papers[i];
            }
            count = from.count;
            joining.copyFrom(from.joining);
        }
    }
}
