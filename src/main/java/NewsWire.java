/** News by wire: pieces that are filed, sent word by word, and joined into texts at papers. */
public final class NewsWire {
    public static final int NONE = -1;
    public static final int MISSING = -2;
    public static final int BEYOND = -3;
    public static final int BELOW = -4;
    public static final int KIND = -5;
    public static final int COPY = -6;
    public static final int NO = -7;
    public static final int FULL = -8;

    private static final int STORIES = 8;
    private static final int BUREAUS = 6;
    private static final int PAPERS = 8;
    private static final int PAPER_SETS = 256;
    private static final int WIRES = 6;
    private static final int SPEED_MOST = 9;
    private static final int PIECES = 40;
    private static final int PARTS = 8;
    private static final int WORDS = 12;
    private static final int WORD_MOST = 9999;
    private static final int RANK_MOST = 9;
    private static final int COST_MOST = 9;
    private static final int TICK_MOST = 100000;
    private static final int RULES = 10;
    private static final int TESTS = 3;
    private static final int DIGITS = 4;
    private static final int TAPE_BYTES = 80;
    private static final int BYTES_AT_ONCE = 4;
    private static final int FILED_AT_ONCE = 12;
    private static final int GARBLES = 40;
    private static final int TICKS_AT_ONCE = 500;
    private static final int WORTH_TICKS = 1000;
    private static final int ROW_NUMBERS = 16;

    private static final int TAKE = 0;
    private static final int LEAD = 1;
    private static final int INSERT = 2;
    private static final int CORRECT = 3;
    private static final int KILL = 4;
    private static final int HELD = 5;

    private static final int KEY_RANK = 0;
    private static final int KEY_BAR = 1;
    private static final int KEY_COST = 2;

    private static final int FIELD_KIND = 0;
    private static final int FIELD_STORY = 1;
    private static final int FIELD_BUREAU = 2;
    private static final int FIELD_WORDS = 3;
    private static final int FIELD_PAPER = 4;

    /** What a look for a refusal answers when there is none. */
    private static final int FINE = 0;
    /** A fault at place 0 is answered so, one at a later place by so many less. */
    private static final int FAULT_AT_START = -10;

    private final Wire[] wires = new Wire[WIRES];
    private final Piece[] pieces = new Piece[PIECES];
    private final Paper[] papers = new Paper[PAPERS];
    private final Rules rules = new Rules();
    private final Garbles garbles = new Garbles();
    private final StoryText storyText = new StoryText();
    private final Choice choice = new Choice();
    private final Tape tape = new Tape();
    private final Row row = new Row();
    private final int[] refusals = new int[MISSING - FULL + 1];
    private int wireCount;
    private int pieceCount;
    private int openTick;
    private int wordsSent;
    private int wordsHeard;
    private int latestPlan;

    public NewsWire() {
        for (int i = 0; i < WIRES; i++) {
            wires[i] = new Wire();
        }
        for (int i = 0; i < PIECES; i++) {
            pieces[i] = new Piece();
        }
        for (int i = 0; i < PAPERS; i++) {
            papers[i] = new Paper();
        }
    }

    // ---- wires and pieces

    public int wire(int bureau, int papers, int speed) {
        if (bureau < 0 || bureau >= BUREAUS) {
            return refuse(BEYOND);
        }
        if (papers < 1 || papers >= PAPER_SETS || speed < 1 || speed > SPEED_MOST) {
            return refuse(NO);
        }
        if (wireCount >= WIRES) {
            return refuse(FULL);
        }
        wires[wireCount].open(bureau, papers, speed);
        wireCount++;
        return wireCount - 1;
    }

    public int piece(int told, int rank, int x, int y) {
        int refusal = refusalOfPiece(told, rank, x, y);
        if (refusal != FINE) {
            return refuse(refusal);
        }
        Piece made = pieces[pieceCount];
        made.kind = told / 100;
        made.story = storyOfPiece(told);
        made.bureau = told % 10;
        made.rank = rank / 100;
        made.x = made.kind == LEAD ? NONE : x;
        made.y = hasY(made.kind) ? y : NONE;
        made.size = rank % 100;
        System.arraycopy(row.numbers, 0, made.words, 0, made.size);
        pieceCount++;
        return pieceCount - 1;
    }

    public int look(int piece, int what) {
        if (!isPiece(piece)) {
            return refuse(BEYOND);
        }
        Piece looked = pieces[piece];
        switch (what) {
            case 0: return looked.kind;
            case 1: return looked.story;
            case 2: return looked.bureau;
            case 3: return looked.rank;
            case 4: return looked.size;
            case 5: return looked.x;
            case 6: return looked.y;
            default: return refuse(NO);
        }
    }

    public int word(int piece, int i) {
        if (!isPiece(piece) || i < 0 || i >= pieces[piece].size) {
            return refuse(BEYOND);
        }
        return pieces[piece].words[i];
    }

    private boolean isPiece(int piece) {
        return piece >= 0 && piece < pieceCount;
    }

    private boolean isWire(int wire) {
        return wire >= 0 && wire < wireCount;
    }

    private static boolean isPaper(int paper) {
        return paper >= 0 && paper < PAPERS;
    }

    private static int storyOfPiece(int told) {
        return told / 10 % 10;
    }

    private static boolean isOfPiece(int kind) {
        return kind == INSERT || kind == CORRECT || kind == KILL;
    }

    private static boolean hasPart(int kind) {
        return kind == TAKE || kind == HELD;
    }

    private static boolean hasY(int kind) {
        return kind == INSERT || kind == CORRECT || kind == HELD;
    }

    private int refusalOfPiece(int told, int rank, int x, int y) {
        if (row.isMissing()) {
            return MISSING;
        }
        int kind = told / 100;
        if (told < 0 || storyOfPiece(told) >= STORIES || told % 10 >= BUREAUS) {
            return BEYOND;
        }
        if (isOfPiece(kind) && !isPiece(x)) {
            return BEYOND;
        }
        int size = rank % 100;
        if (kind > HELD || rank < 0 || rank / 100 > RANK_MOST || size < 1 || size > WORDS || size > row.size) {
            return NO;
        }
        if (hasPart(kind) && (x < 0 || x >= PARTS) || kind == HELD && (y < 0 || y > TICK_MOST)) {
            return NO;
        }
        int refusal = isOfPiece(kind) ? refusalOfTarget(kind, storyOfPiece(told), size, pieces[x], y) : FINE;
        if (refusal != FINE) {
            return refusal;
        }
        return pieceCount < PIECES ? FINE : FULL;
    }

    private static int refusalOfTarget(int kind, int story, int size, Piece target, int y) {
        if (target.story != story) {
            return KIND;
        }
        if (kind == KILL) {
            return target.kind == KILL ? KIND : FINE;
        }
        if (!target.isOfText()) {
            return KIND;
        }
        int lastPlace = kind == CORRECT ? target.size - size : target.size;
        return y < 0 || y > lastPlace ? NO : FINE;
    }

    // ---- rules

    public int feed(int bytes, int n) {
        if (n < 0) {
            return refuse(BELOW);
        }
        if (n > BYTES_AT_ONCE) {
            return refuse(NO);
        }
        if (tape.length + n > TAPE_BYTES) {
            return refuse(FULL);
        }
        tape.append(bytes, n);
        return tape.length;
    }

    public int wipe() {
        int had = tape.length;
        tape.length = 0;
        return had;
    }

    public int rule(int from, int to) {
        if (from < 0 || to > TICK_MOST || from >= to) {
            return refuse(NO);
        }
        if (rules.count >= RULES) {
            return refuse(FULL);
        }
        // the place behind the last RULE is free to be read into: it counts only when all is well
        Rule next = rules.all[rules.count];
        int fault = next.readFrom(tape);
        if (fault != NONE) {
            return FAULT_AT_START - fault;
        }
        if (next.number > mostOfKey(next.key)) {
            return refuse(NO);
        }
        next.from = from;
        next.to = to;
        rules.count++;
        tape.length = 0;
        return rules.count - 1;
    }

    public int holds(int rule, int piece, int paper) {
        if (rule < 0 || rule >= rules.count || !isPiece(piece) || paper != NONE && !isPaper(paper)) {
            return refuse(BEYOND);
        }
        return rules.all[rule].isSo(pieces[piece], paper, openTick) ? 1 : 0;
    }

    public int rank(int piece) {
        if (!isPiece(piece)) {
            return refuse(BEYOND);
        }
        return rules.rankOf(pieces[piece], openTick);
    }

    public int barred(int piece, int paper) {
        if (!isPiece(piece) || !isPaper(paper)) {
            return refuse(BEYOND);
        }
        return rules.bar(pieces[piece], paper, openTick) ? 1 : 0;
    }

    private static int mostOfKey(int key) {
        switch (key) {
            case KEY_RANK: return RANK_MOST;
            case KEY_BAR: return PAPERS - 1;
            default: return COST_MOST;
        }
    }

    // ---- sending

    public int file(int piece, int wire) {
        if (!isPiece(piece) || !isWire(wire)) {
            return refuse(BEYOND);
        }
        Wire by = wires[wire];
        if (by.bureau != pieces[piece].bureau || by.wasFiled(piece)) {
            return refuse(NO);
        }
        if (by.waiting >= FILED_AT_ONCE) {
            return refuse(FULL);
        }
        by.enqueue(piece);
        return by.waiting;
    }

    public int garble(int wire, int tick) {
        if (!isWire(wire)) {
            return refuse(BEYOND);
        }
        if (tick < openTick || tick > TICK_MOST || garbles.include(wire, tick)) {
            return refuse(NO);
        }
        if (garbles.count >= GARBLES) {
            return refuse(FULL);
        }
        garbles.enter(wire, tick);
        return garbles.count;
    }

    public int run(int n) {
        if (n < 0) {
            return refuse(BELOW);
        }
        if (n < 1 || n > TICKS_AT_ONCE) {
            return refuse(NO);
        }
        int before = wordsHeard;
        int end = openTick + n;
        // where no PIECE waits any more the ticks that are left pass at once
        for (int i = 0; i < n && isAnyWaiting(); i++) {
            for (int w = 0; w < wireCount; w++) {
                sendOneTick(w);
            }
            openTick++;
        }
        openTick = end;
        garbles.dropAheadOf(openTick);
        return wordsHeard - before;
    }

    public int sent(int piece, int wire, int what) {
        if (!isPiece(piece) || !isWire(wire)) {
            return refuse(BEYOND);
        }
        Wire by = wires[wire];
        if (!by.wasFiled(piece)) {
            return refuse(MISSING);
        }
        switch (what) {
            case 0: return by.heard[piece];
            case 1: return by.doneIn[piece];
            case 2: return by.placeOf(piece);
            default: return refuse(NO);
        }
    }

    public int since(int piece, int paper) {
        if (!isPiece(piece) || !isPaper(paper)) {
            return refuse(BEYOND);
        }
        return papers[paper].hasSince[piece];
    }

    public int cost(int paper) {
        if (!isPaper(paper)) {
            return refuse(BEYOND);
        }
        return papers[paper].charged;
    }

    public int first(int story, int paper) {
        if (story < 0 || story >= STORIES || !isPaper(paper)) {
            return refuse(BEYOND);
        }
        int[] hasSince = papers[paper].hasSince;
        int earliest = NONE;
        for (int i = 0; i < pieceCount; i++) {
            boolean counts = pieces[i].story == story && hasSince[i] != NONE;
            if (counts && (earliest == NONE || hasSince[i] < earliest)) {
                earliest = hasSince[i];
            }
        }
        return earliest;
    }

    private boolean isAnyWaiting() {
        for (int i = 0; i < wireCount; i++) {
            if (wires[i].waiting > 0) {
                return true;
            }
        }
        return false;
    }

    private void sendOneTick(int wire) {
        Wire by = wires[wire];
        if (by.waiting == 0) {
            return;
        }
        boolean garbled = garbles.include(wire, openTick);
        for (int i = 0; i < by.speed && by.waiting > 0; i++) {
            wordsSent++;
            if (!garbled) {
                hearWord(by, placeOfGreatest(by));
            }
        }
    }

    /** The place in the queue of the PIECE with the greatest RANK, of several the one that was filed first. */
    private int placeOfGreatest(Wire by) {
        int place = 0;
        int greatest = NONE;
        for (int i = 0; i < by.waiting; i++) {
            int rank = rules.rankOf(pieces[by.queue[i]], openTick);
            if (rank > greatest) {
                greatest = rank;
                place = i;
            }
        }
        return place;
    }

    private void hearWord(Wire by, int place) {
        int piece = by.queue[place];
        Piece told = pieces[piece];
        wordsHeard++;
        by.heard[piece]++;
        boolean done = by.heard[piece] >= told.size;
        for (int i = 0; i < PAPERS; i++) {
            if (by.goesTo(i) && !rules.bar(told, i, openTick)) {
                papers[i].charged += rules.costOf(told, i, openTick);
                if (done) {
                    papers[i].receive(piece, openTick);
                }
            }
        }
        if (done) {
            by.dequeue(place, openTick);
        }
    }

    // ---- texts

    public int text(int told, int tick, int what) {
        if (!isText(told, tick)) {
            return refuse(BEYOND);
        }
        if (what < 0 || what > 3) {
            return refuse(NO);
        }
        joinText(told, tick);
        switch (what) {
            case 0: return storyText.length;
            case 1: return storyText.gap;
            case 2: return storyText.lead;
            default: return storyText.parts;
        }
    }

    public int read(int told, int tick, int i) {
        return isPlaceInText(told, tick, i) ? storyText.words[i] : refuse(BEYOND);
    }

    public int from(int told, int tick, int i) {
        return isPlaceInText(told, tick, i) ? storyText.bringers[i] : refuse(BEYOND);
    }

    public int edition(int paper) {
        if (!isPaper(paper)) {
            return refuse(BEYOND);
        }
        Paper printing = papers[paper];
        int words = 0;
        long bringers = 0;
        for (int story = 0; story < STORIES; story++) {
            storyText.join(pieces, story, printing, openTick);
            words += storyText.length;
            bringers |= storyText.setOfBringers();
        }
        printing.editionTick = openTick;
        printing.editionWords = words;
        printing.editionBringers = bringers;
        return words;
    }

    public int printed(int paper, int what) {
        if (!isPaper(paper)) {
            return refuse(BEYOND);
        }
        Paper of = papers[paper];
        if (of.editionTick == NONE) {
            return refuse(MISSING);
        }
        switch (what) {
            case 0: return of.editionTick;
            case 1: return of.editionWords;
            case 2: return Long.bitCount(setBehind(of));
            case 3: return leastOf(setBehind(of));
            default: return refuse(NO);
        }
    }

    public int worth(int wire, int n) {
        if (!isWire(wire)) {
            return refuse(BEYOND);
        }
        if (n < 0) {
            return refuse(BELOW);
        }
        if (n > WORTH_TICKS) {
            return refuse(NO);
        }
        Wire by = wires[wire];
        choice.clear();
        for (int i = 0; i < by.waiting; i++) {
            Piece offered = pieces[by.queue[i]];
            int left = offered.size - by.heard[by.queue[i]];
            choice.offer(1 << i, left, rules.rankOf(offered, openTick) + 1);
        }
        choice.pick(by.speed * n);
        latestPlan = choice.bestSet;
        return choice.bestSum;
    }

    public int plan() {
        return latestPlan;
    }

    public int count(int what) {
        switch (what) {
            case 0: return openTick;
            case 1: return wireCount;
            case 2: return pieceCount;
            case 3: return rules.count;
            case 4: return tape.length;
            case 5: return wordsSent;
            case 6: return wordsHeard;
            case 7: return garbles.count;
            default: return refuse(NO);
        }
    }

    private boolean isText(int told, int tick) {
        return told >= 0 && told / 10 < STORIES && told % 10 < PAPERS && tick >= 0 && tick <= openTick;
    }

    private void joinText(int told, int tick) {
        storyText.join(pieces, told / 10, papers[told % 10], tick);
    }

    /** Joins the TEXT, if there is such a one, so that its word i can be read where this is true. */
    private boolean isPlaceInText(int told, int tick, int i) {
        if (!isText(told, tick)) {
            return false;
        }
        joinText(told, tick);
        return i >= 0 && i < storyText.length;
    }

    private long setBehind(Paper of) {
        long behind = 0;
        for (int i = 0; i < pieceCount; i++) {
            int kind = pieces[i].kind;
            boolean late = (kind == KILL || kind == CORRECT) && of.hasSince[i] >= of.editionTick;
            if (late && (of.editionBringers >>> pieces[i].x & 1) == 1) {
                behind |= 1L << i;
            }
        }
        return behind;
    }

    private static int leastOf(long set) {
        for (int i = 0; i < PIECES; i++) {
            if ((set >>> i & 1) == 1) {
                return i;
            }
        }
        return NONE;
    }

    // ---- rows

    public int tell(int i, int v) {
        if (i < 0 || i >= (row.isMissing() ? ROW_NUMBERS : row.size)) {
            return refuse(BEYOND);
        }
        if (v < 0 || v > WORD_MOST) {
            return refuse(NO);
        }
        if (row.isMissing()) {
            row.layZeros();
        }
        row.numbers[i] = v;
        return 1;
    }

    public int lay(int piece) {
        if (!isPiece(piece)) {
            return refuse(BEYOND);
        }
        Piece laid = pieces[piece];
        System.arraycopy(laid.words, 0, row.numbers, 0, laid.size);
        row.size = laid.size;
        return row.size;
    }

    public int tear() {
        int was = row.isMissing() ? 0 : 1;
        row.size = 0;
        return was;
    }

    public int row(int i) {
        if (row.isMissing()) {
            return refuse(MISSING);
        }
        if (i < 0 || i >= row.size) {
            return refuse(BEYOND);
        }
        return row.numbers[i];
    }

    public int copy(int i, int j, int n) {
        if (row.isMissing()) {
            return refuse(MISSING);
        }
        if (n < 0) {
            return refuse(BELOW);
        }
        // n is taken from the size, as i + n could wrap around
        if (i < 0 || j < 0 || i > row.size - n || j > row.size - n) {
            return refuse(COPY);
        }
        System.arraycopy(row.numbers, i, row.numbers, j, n);
        return n;
    }

    public int status(int by) {
        if (by < FULL || by > MISSING) {
            return refuse(NO);
        }
        return refusals[MISSING - by];
    }

    private int refuse(int why) {
        refusals[MISSING - why]++;
        return why;
    }

    /** THE ROW: it is missing while it has no numbers. */
    private static final class Row {
        final int[] numbers = new int[ROW_NUMBERS];
        int size;

        boolean isMissing() {
            return size == 0;
        }

        void layZeros() {
            for (int i = 0; i < ROW_NUMBERS; i++) {
                numbers[i] = 0;
            }
            size = ROW_NUMBERS;
        }
    }

    /** THE TAPE, and how far it is read: at the first fault that stops, and what is expected then changes nothing. */
    private static final class Tape {
        private final int[] bytes = new int[TAPE_BYTES];
        int length;
        private int at;
        private int fault;

        void append(int packed, int n) {
            for (int left = n - 1; left >= 0 && length < TAPE_BYTES; left--) {
                bytes[length] = packed >>> 8 * left & 255;
                length++;
            }
        }

        void rewind() {
            at = 0;
            fault = NONE;
        }

        boolean goesOn() {
            return fault == NONE && at < length;
        }

        /** The byte that is next, or NONE at the end. */
        int next() {
            return at < length && at < TAPE_BYTES ? bytes[at] : NONE;
        }

        void expect(String text) {
            for (int i = 0; i < text.length() && fault == NONE; i++) {
                if (next() == text.charAt(i)) {
                    at++;
                } else {
                    fault = at;
                }
            }
        }

        int expectNumber() {
            int value = 0;
            int digits = 0;
            while (fault == NONE && digits < DIGITS && next() >= '0' && next() <= '9') {
                value = value * 10 + next() - '0';
                digits++;
                at++;
            }
            if (fault == NONE && digits == 0) {
                fault = at;
            }
            return value;
        }

        /** Where the first fault is, or NONE; what is left to be read is one. */
        int faultAtEnd() {
            return goesOn() ? at : fault;
        }
    }

    private static final class Piece {
        final int[] words = new int[WORDS];
        int kind;
        int story;
        int bureau;
        int rank;
        int size;
        int x;
        int y;

        /** Whether it stands in a TEXT by itself, so that others can be put into it. */
        boolean isOfText() {
            return kind == TAKE || kind == HELD || kind == LEAD;
        }
    }

    private static final class Rule {
        final int[] fields = new int[TESTS];
        final int[] signs = new int[TESTS];
        final int[] bounds = new int[TESTS];
        int tests;
        int key;
        int number;
        int from;
        int to;

        /** Reads itself: the place of the first fault, or NONE. After a fault what it is has no meaning. */
        int readFrom(Tape tape) {
            tape.rewind();
            tests = 0;
            key = readKey(tape);
            tape.expect(" ");
            number = tape.expectNumber();
            while (tests < TESTS && tape.goesOn()) {
                tape.expect(tests == 0 ? " if " : " and ");
                fields[tests] = readField(tape);
                signs[tests] = readSign(tape);
                bounds[tests] = tape.expectNumber();
                tests++;
            }
            return tape.faultAtEnd();
        }

        /** No two KEYS begin with the same byte; where none begins so, any of them has its fault there. */
        private static int readKey(Tape tape) {
            switch (tape.next()) {
                case 'b':
                    tape.expect("bar");
                    return KEY_BAR;
                case 'c':
                    tape.expect("cost");
                    return KEY_COST;
                default:
                    tape.expect("rank");
                    return KEY_RANK;
            }
        }

        /** As with KEYS, the first byte tells FIELDS apart. */
        private static int readField(Tape tape) {
            switch (tape.next()) {
                case 'k':
                    tape.expect("kind");
                    return FIELD_KIND;
                case 's':
                    tape.expect("story");
                    return FIELD_STORY;
                case 'b':
                    tape.expect("bureau");
                    return FIELD_BUREAU;
                case 'w':
                    tape.expect("words");
                    return FIELD_WORDS;
                default:
                    tape.expect("paper");
                    return FIELD_PAPER;
            }
        }

        private static int readSign(Tape tape) {
            switch (tape.next()) {
                case '<':
                    tape.expect("<");
                    return '<';
                case '>':
                    tape.expect(">");
                    return '>';
                default:
                    tape.expect("=");
                    return '=';
            }
        }

        boolean isSo(Piece piece, int paper, int tick) {
            if (tick < from || tick >= to) {
                return false;
            }
            for (int i = 0; i < tests; i++) {
                boolean lacksPaper = fields[i] == FIELD_PAPER && paper == NONE;
                if (lacksPaper || !compares(i, valueOf(fields[i], piece, paper))) {
                    return false;
                }
            }
            return true;
        }

        private boolean compares(int test, int value) {
            switch (signs[test]) {
                case '<': return value < bounds[test];
                case '>': return value > bounds[test];
                default: return value == bounds[test];
            }
        }

        private static int valueOf(int field, Piece piece, int paper) {
            switch (field) {
                case FIELD_KIND: return piece.kind;
                case FIELD_STORY: return piece.story;
                case FIELD_BUREAU: return piece.bureau;
                case FIELD_WORDS: return piece.size;
                default: return paper;
            }
        }
    }

    private static final class Rules {
        final Rule[] all = new Rule[RULES];
        int count;

        Rules() {
            for (int i = 0; i < RULES; i++) {
                all[i] = new Rule();
            }
        }

        int rankOf(Piece piece, int tick) {
            return numberOfLatest(KEY_RANK, piece, NONE, tick, piece.rank);
        }

        int costOf(Piece piece, int paper, int tick) {
            return numberOfLatest(KEY_COST, piece, paper, tick, 1);
        }

        boolean bar(Piece piece, int paper, int tick) {
            for (int i = 0; i < count; i++) {
                Rule rule = all[i];
                if (rule.key == KEY_BAR && rule.number == paper && rule.isSo(piece, paper, tick)) {
                    return true;
                }
            }
            return false;
        }

        private int numberOfLatest(int key, Piece piece, int paper, int tick, int otherwise) {
            for (int i = count - 1; i >= 0; i--) {
                if (all[i].key == key && all[i].isSo(piece, paper, tick)) {
                    return all[i].number;
                }
            }
            return otherwise;
        }
    }

    private static final class Wire {
        /** The PIECES that are filed here and not done, as they were filed. */
        final int[] queue = new int[FILED_AT_ONCE];
        /** How many words of each PIECE were heard; NONE of one that was never filed here. */
        final int[] heard = new int[PIECES];
        final int[] doneIn = new int[PIECES];
        int waiting;
        int bureau;
        int papers;
        int speed;

        void open(int ofBureau, int toPapers, int wordsATick) {
            bureau = ofBureau;
            papers = toPapers;
            speed = wordsATick;
            for (int i = 0; i < PIECES; i++) {
                heard[i] = NONE;
                doneIn[i] = NONE;
            }
        }

        boolean goesTo(int paper) {
            return (papers >> paper & 1) == 1;
        }

        boolean wasFiled(int piece) {
            return heard[piece] != NONE;
        }

        int placeOf(int piece) {
            for (int i = 0; i < waiting; i++) {
                if (queue[i] == piece) {
                    return i;
                }
            }
            return NONE;
        }

        void enqueue(int piece) {
            queue[waiting] = piece;
            heard[piece] = 0;
            waiting++;
        }

        void dequeue(int place, int tick) {
            doneIn[queue[place]] = tick;
            waiting--;
            for (int i = place; i < waiting; i++) {
                queue[i] = queue[i + 1];
            }
        }
    }

    /** The ticks that are garbled, open or later, each for a WIRE. */
    private static final class Garbles {
        private final int[] wires = new int[GARBLES];
        private final int[] ticks = new int[GARBLES];
        int count;

        boolean include(int wire, int tick) {
            for (int i = 0; i < count; i++) {
                if (wires[i] == wire && ticks[i] == tick) {
                    return true;
                }
            }
            return false;
        }

        void enter(int wire, int tick) {
            wires[count] = wire;
            ticks[count] = tick;
            count++;
        }

        void dropAheadOf(int tick) {
            int kept = 0;
            for (int i = 0; i < count; i++) {
                if (ticks[i] >= tick) {
                    wires[kept] = wires[i];
                    ticks[kept] = ticks[i];
                    kept++;
                }
            }
            count = kept;
        }
    }

    private static final class Paper {
        /** Since which tick it has each PIECE, or NONE. */
        final int[] hasSince = new int[PIECES];
        int charged;
        int editionTick;
        int editionWords;
        /** The PIECES that brought a word of the latest EDITION, as bits. */
        long editionBringers;

        Paper() {
            editionTick = NONE;
            for (int i = 0; i < PIECES; i++) {
                hasSince[i] = NONE;
            }
        }

        boolean hadBy(int piece, int tick) {
            return hasSince[piece] != NONE && hasSince[piece] <= tick;
        }

        void receive(int piece, int tick) {
            if (hasSince[piece] == NONE) {
                hasSince[piece] = tick;
            }
        }
    }

    /** The TEXT of a STORY at a PAPER in a tick, joined anew for each question. */
    private static final class StoryText {
        final int[] words = new int[PIECES * WORDS];
        final int[] bringers = new int[PIECES * WORDS];
        private Piece[] pieces = new Piece[0];
        /** The words of one PIECE with its CORRECTS. */
        private final int[] mended = new int[WORDS];
        private final int[] menders = new int[WORDS];
        /** The PIECES that are there, as bits. */
        private long there;
        int length;
        int lead;
        int gap;
        int parts;

        void join(Piece[] all, int story, Paper paper, int tick) {
            pieces = all;
            findThere(story, paper, tick);
            length = 0;
            lead = latestLead();
            if (lead != NONE) {
                appendPiece(lead);
            }
            parts = 0;
            int next = latestOfPart(0);
            while (next != NONE && parts < PARTS) {
                appendPiece(next);
                parts++;
                next = latestOfPart(parts);
            }
            gap = isPartBehind(parts) ? parts : NONE;
        }

        long setOfBringers() {
            long set = 0;
            for (int i = 0; i < length; i++) {
                set |= 1L << bringers[i];
            }
            return set;
        }

        private void findThere(int story, Paper paper, int tick) {
            long had = 0;
            long killed = 0;
            for (int i = 0; i < pieces.length; i++) {
                Piece piece = pieces[i];
                if (paper.hadBy(i, tick) && piece.story == story) {
                    boolean waits = piece.kind == HELD && tick < piece.y;
                    had |= waits ? 0 : 1L << i;
                    killed |= piece.kind == KILL ? 1L << piece.x : 0;
                }
            }
            there = had & ~killed;
        }

        private boolean isThere(int piece) {
            return (there >>> piece & 1) == 1;
        }

        private int latestLead() {
            for (int i = pieces.length - 1; i >= 0; i--) {
                if (isThere(i) && pieces[i].kind == LEAD) {
                    return i;
                }
            }
            return NONE;
        }

        private int latestOfPart(int part) {
            for (int i = pieces.length - 1; i >= 0; i--) {
                if (isThere(i) && hasPart(pieces[i].kind) && pieces[i].x == part) {
                    return i;
                }
            }
            return NONE;
        }

        private boolean isPartBehind(int part) {
            for (int later = part + 1; later < PARTS; later++) {
                if (latestOfPart(later) != NONE) {
                    return true;
                }
            }
            return false;
        }

        private void appendPiece(int base) {
            mend(base);
            int size = pieces[base].size;
            for (int place = 0; place < size; place++) {
                appendInserts(base, place);
                appendWord(mended[place], menders[place]);
            }
            appendInserts(base, size);
        }

        private void mend(int base) {
            for (int i = 0; i < pieces[base].size; i++) {
                mended[i] = pieces[base].words[i];
                menders[i] = base;
            }
            for (int p = base + 1; p < pieces.length; p++) {
                Piece piece = pieces[p];
                if (isThere(p) && piece.kind == CORRECT && piece.x == base) {
                    for (int i = 0; i < piece.size && piece.y + i < WORDS; i++) {
                        mended[piece.y + i] = piece.words[i];
                        menders[piece.y + i] = p;
                    }
                }
            }
        }

        private void appendInserts(int base, int place) {
            for (int p = base + 1; p < pieces.length; p++) {
                Piece piece = pieces[p];
                if (isThere(p) && piece.kind == INSERT && piece.x == base && piece.y == place) {
                    for (int i = 0; i < piece.size; i++) {
                        appendWord(piece.words[i], p);
                    }
                }
            }
        }

        private void appendWord(int word, int bringer) {
            if (length < words.length) {
                words[length] = word;
                bringers[length] = bringer;
                length++;
            }
        }
    }

    /** Chooses, of PIECES with words and a gain each, the set that gains the most within some words. */
    private static final class Choice {
        private static final int WORDS_MOST = FILED_AT_ONCE * WORDS;
        /** For each number of words in all: the greatest sum with just so many, or NONE. */
        private final int[] sums = new int[WORDS_MOST + 1];
        /** The least set that has this sum. */
        private final int[] sets = new int[WORDS_MOST + 1];
        int bestSum;
        int bestSet;

        void clear() {
            for (int i = 0; i <= WORDS_MOST; i++) {
                sums[i] = NONE;
                sets[i] = 0;
            }
            sums[0] = 0;
        }

        /** Each bit offered is greater than those before: what is kept of two alike is the lesser set. */
        void offer(int bit, int words, int gain) {
            // from above, so that what is offered is not taken twice
            for (int all = WORDS_MOST; all >= words; all--) {
                int without = sums[all - words];
                if (without != NONE && without + gain > sums[all]) {
                    sums[all] = without + gain;
                    sets[all] = sets[all - words] | bit;
                }
            }
        }

        void pick(int room) {
            bestSum = 0;
            bestSet = 0;
            for (int words = 0; words <= WORDS_MOST && words <= room; words++) {
                if (sums[words] > bestSum) {
                    bestSum = sums[words];
                    bestSet = sets[words];
                }
            }
        }
    }
}
