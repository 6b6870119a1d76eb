/** Paragraph 2 and promises 6 to 11, sentence by sentence: the least, the greatest, what is beyond, empty and full. */
public final class RuleBoundsTest {
    private static final int LEAST = Integer.MIN_VALUE;
    private static final int MOST = Integer.MAX_VALUE;
    private static final String LONGEST = "rank 0009 if bureau=0000 and bureau=0000 and bureau=0000";
    private static final Due DUE = new Due();

    public static void main(String[] args) {
        feedHowMany();
        feedWhichBytes();
        tapeFull();
        wipes();
        ruleTicks();
        ruleTakesTape();
        rulesFull();
        keys();
        numbers();
        blanks();
        fields();
        signs();
        threeTests();
        faultPlace();
        faultAtEnd();
        faultAheadOfNumber();
        numberBeyond();
        tapeStays();
        inForce();
        allTests();
        pieceAlone();
        holdsBeyond();
        rankOfLatest();
        rankBounds();
        barOfPaper();
        costOfLatest();
        DUE.allPromises(6, 11);
        DUE.end();
    }

    private static void feedHowMany() {
        DUE.sentence("Promise 6", "(n 0 .. 4): how many it has. BELOW, NO: n");
        NewsWire x = new NewsWire();
        DUE.is("n -1", x.feed(0, -1), NewsWire.BELOW);
        DUE.is("the least n", x.feed(0, LEAST), NewsWire.BELOW);
        DUE.is("n 5", x.feed(0, 5), NewsWire.NO);
        DUE.is("the greatest n", x.feed(0, MOST), NewsWire.NO);
        DUE.is("none came", x.count(4), 0);
        DUE.is("n 0", x.feed(MOST, 0), 0);
        DUE.is("n 1", x.feed(0, 1), 1);
        DUE.is("n 2", x.feed(0, 2), 3);
        DUE.is("n 3", x.feed(0, 3), 6);
        DUE.is("n 4", x.feed(0, 4), 10);
        DUE.is("n 0 again", x.feed(0, 0), 10);
    }

    private static void feedWhichBytes() {
        DUE.sentence("Promise 6", "THE TAPE gets the n lowest bytes of a number behind it, the highest of these first");
        int rank = 'r' << 24 | 'a' << 16 | 'n' << 8 | 'k';
        NewsWire x = new NewsWire();
        x.feed(rank, 4);
        x.feed(0xffff0000 | ' ' << 8 | '7', 2);
        DUE.is("four, and the two lowest of a number below 0", x.rule(0, 1), 0);
        x.feed(rank >>> 8, 3);
        x.feed(rank, 1);
        x.feed(MOST - 255 | ' ', 1);
        x.feed(0x7f << 24 | '7' << 16 | ' ' << 8 | 'i', 3);
        x.feed(0x66206b69, 4);
        x.feed(0x6e643d30, 4);
        DUE.is("three, one, one and three", x.rule(0, 1), 1);
        x.feed(0x80 << 24 | rank, 4);
        DUE.is("a byte above 127 is none of a rule", x.rule(0, 1), -10);
    }

    private static void tapeFull() {
        DUE.sentence("Terms", "read from THE TAPE (bytes, 80 at most)");
        NewsWire x = new NewsWire();
        for (int i = 1; i <= 19; i++) {
            x.feed(-1, 4);
        }
        DUE.is("76 and one", x.feed(0, 1), 77);
        DUE.is("77 and four", x.feed(0, 4), NewsWire.FULL);
        DUE.is("77 stay", x.count(4), 77);
        DUE.is("77 and three", x.feed(0, 3), 80);
        DUE.sentence("Promise 6", "FULL.");
        for (int n = 1; n <= 4; n++) {
            DUE.is("80 and " + n, x.feed(0, n), NewsWire.FULL);
        }
        DUE.is("80 and none", x.feed(0, 0), 80);
        DUE.is("80 stay", x.count(4), 80);
        DUE.is("their fault", x.rule(0, 1), -10);
        x.wipe();
        DUE.is("room again", x.feed(0, 4), 4);
        Desk d = new Desk();
        d.tape(LONGEST + "x".repeat(80 - LONGEST.length()));
        DUE.is("the fault behind a whole rule", d.wire.rule(0, 1), -10 - LONGEST.length());
    }

    private static void wipes() {
        DUE.sentence("Promise 7", "THE TAPE is empty: how many bytes it had.");
        NewsWire x = new NewsWire();
        DUE.is("an empty one", x.wipe(), 0);
        x.feed(0, 3);
        DUE.is("three", x.wipe(), 3);
        DUE.is("it is empty", x.count(4), 0);
        DUE.is("again", x.wipe(), 0);
        for (int i = 0; i < 20; i++) {
            x.feed(0, 4);
        }
        DUE.is("a full one", x.wipe(), 80);
        DUE.is("what comes then stands at its head", x.feed('x', 1), 1);
        DUE.is("nothing refused so far", x.status(NewsWire.NO), 0);
    }

    private static void ruleTicks() {
        DUE.sentence("Promise 8", "NO: ticks (from is not ahead of to, or one beyond)");
        int[][] wrong = {{0, 0}, {5, 5}, {6, 5}, {100000, 100000}, {-1, 5}, {-1, 0}, {0, 100001}, {99999, 100001},
            {100000, 100001}, {100001, 100002}, {LEAST, MOST}, {LEAST, 1}, {0, MOST}, {MOST, LEAST}, {0, -1}, {-2, -1}};
        Desk d = new Desk();
        for (int[] ticks : wrong) {
            DUE.is("from " + ticks[0] + " to " + ticks[1], d.rule("rank 1", ticks[0], ticks[1]), NewsWire.NO);
            DUE.is("the tape stays", d.wire.count(4), 6);
        }
        DUE.sentence("Terms", "in force from a tick on, ahead of another one (0 .. 100000)");
        int[][] fine = {{0, 1}, {0, 100000}, {99999, 100000}, {4, 5}};
        for (int i = 0; i < fine.length; i++) {
            DUE.is("from " + fine[i][0] + " to " + fine[i][1], d.rule("rank 1", fine[i][0], fine[i][1]), i);
        }
    }

    private static void ruleTakesTape() {
        DUE.sentence("Promise 8", "THE TAPE is a RULE: its number; THE TAPE is empty then.");
        Desk d = new Desk();
        DUE.is("the shortest", d.rule("bar 0"), 0);
        DUE.is("empty", d.wire.count(4), 0);
        DUE.is("the longest", d.rule(LONGEST), 1);
        DUE.is("empty", d.wire.wipe(), 0);
        DUE.is("an empty tape is none", d.wire.rule(0, 1), -10);
    }

    private static void rulesFull() {
        DUE.sentence("Terms", "RULES 0 .. 9 as they come");
        Desk d = new Desk();
        for (int i = 0; i <= 9; i++) {
            DUE.is("rule " + i, d.rule("cost 1"), i);
        }
        DUE.sentence("Promise 8", "FULL; -10 less the FAULT");
        DUE.is("the eleventh", d.rule("cost 1"), NewsWire.FULL);
        DUE.is("the tape stays", d.wire.count(4), 6);
        DUE.is("ten stay", d.wire.count(3), 10);
    }

    /** What is put on the tape is a rule, or has its first fault at this place. */
    private static void fault(String text, int place) {
        Desk d = new Desk();
        DUE.is("'" + text + "'", d.rule(text), place < 0 ? 0 : -10 - place);
        DUE.is("'" + text + "' stays on the tape", d.wire.count(4), place < 0 ? 0 : text.length());
    }

    private static void fine(String text) {
        fault(text, -1);
    }

    private static void keys() {
        DUE.sentence("Terms", "KEY: rank bar cost");
        fine("rank 1");
        fine("bar 1");
        fine("cost 1");
        fault("Rank 1", 0);
        fault("ank 1", 0);
        fault("kind 1", 0);
        fault("bank 1", 2);
        fault("rost 1", 1);
        fault("car 1", 1);
        fault("ranks 1", 4);
        fault("costs 1", 4);
        fault("bars 1", 3);
        fault("ran 1", 3);
    }

    private static void numbers() {
        DUE.sentence("Terms", "NUMBER: 1 to 4 digits");
        fine("rank 0");
        fine("rank 00");
        fine("rank 009");
        fine("rank 0009");
        fault("rank 00090", 9);
        fault("rank if kind=0", 5);
        fault("rank +1", 5);
        fault("rank -1", 5);
        fault("rank /", 5);
        fault("rank :", 5);
        fault("rank 1/", 6);
        fault("rank 1:", 6);
        fine("rank 1 if kind=0");
        fine("rank 1 if kind=9999");
        fault("rank 1 if kind=10000", 19);
        fault("rank 1 if kind=-1", 15);
    }

    private static void blanks() {
        DUE.sentence("Terms", "KEY blank NUMBER, and perhaps: blank if blank TEST, then any number of times: "
                + "blank and blank TEST.");
        fault(" rank 1", 0);
        fault("rank1", 4);
        fault("rank\t1", 4);
        fault("rank  1", 5);
        fault("rank 1 ", 7);
        fault("rank 1if kind=1", 6);
        fault("rank 1  if kind=1", 7);
        fault("rank 1 ifkind=1", 9);
        fault("rank 1 if  kind=1", 10);
        fault("rank 1 if kind=1 ", 17);
        fault("rank 1 if kind=1and kind=1", 16);
        fault("rank 1 if kind=1  and kind=1", 17);
        fault("rank 1 if kind=1 andkind=1", 20);
        fault("rank 1 if kind=1 and  kind=1", 21);
        fault("rank 1 and kind=1", 7);
        fault("rank 1 if kind=1 if kind=1", 17);
        fine("rank 1 if kind=1 and kind=1");
    }

    private static void fields() {
        DUE.sentence("Terms", "FIELD: kind story bureau words paper");
        String[] names = {"kind", "story", "bureau", "words", "paper"};
        for (String name : names) {
            fine("rank 1 if " + name + "=1");
            fine("rank 1 if kind=1 and " + name + "=1");
            fault("rank 1 if " + name + "s=1", 10 + name.length());
            for (int cut = 1; cut < name.length(); cut++) {
                fault("rank 1 if " + name.substring(0, cut) + "=1", 10 + cut);
            }
        }
        fault("rank 1 if rank=1", 10);
        fault("rank 1 if Kind=1", 10);
        fault("rank 1 if =1", 10);
    }

    private static void signs() {
        DUE.sentence("Terms", "TEST: FIELD, one of = < >, NUMBER, without blanks");
        for (char sign : new char[] {'=', '<', '>'}) {
            fine("rank 1 if kind" + sign + "1");
            fault("rank 1 if kind " + sign + "1", 14);
            fault("rank 1 if kind" + sign + " 1", 15);
            fault("rank 1 if kind" + sign + "=1", 15);
            fault("rank 1 if kind" + sign + ">1", 15);
        }
        fault("rank 1 if kind1", 14);
        fault("rank 1 if kind;1", 14);
        fault("rank 1 if kind?1", 14);
    }

    private static void threeTests() {
        DUE.sentence("Terms", "3 TESTS at most.");
        String three = "cost 1 if kind=1 and story<2 and words>3";
        fine("cost 1");
        fine("cost 1 if kind=1");
        fine("cost 1 if kind=1 and story<2");
        fine(three);
        fault(three + " and paper=1", three.length());
        fault(three + " ", three.length());
        fault(three + "0000", three.length() + 3);
    }

    private static void faultPlace() {
        DUE.sentence("Terms", "The FAULT is the place of the first byte with which no RULE begins so");
        fault("x", 0);
        fault("rank 1x", 6);
        fault("xank x if x", 0);
        fault("rbnk x if x", 1);
        fault("rank x if x", 5);
        fault("rank 1 ix x", 8);
        fault("rank 1 if x", 10);
        fault("rank 1 if kind=1 and x", 21);
        fault("rank 1 if kind=1 and kind=1 and kind=x", 37);
        Desk d = new Desk();
        d.tape("rank 1");
        d.wire.feed(0, 1);
        DUE.is("a byte 0", d.wire.rule(0, 1), -16);
        d.tape("rank 1");
        d.wire.feed(' ' | 128, 1);
        DUE.is("a blank with its highest bit", d.wire.rule(0, 1), -16);
    }

    private static void faultAtEnd() {
        DUE.sentence("Terms", "(the end of THE TAPE, if it ends too early)");
        String whole = "rank 1 if kind=1 and words=1";
        for (int length = 0; length <= whole.length(); length++) {
            boolean ends = length == 6 || length == 16 || length == whole.length();
            fault(whole.substring(0, length), ends ? -1 : length);
        }
    }

    private static void faultAheadOfNumber() {
        DUE.sentence("Terms", "it is looked for ahead of what follows: NUMBERS beyond");
        fault("rank 10 ", 8);
        fault("rank 10x", 7);
        fault("bar 8 if", 8);
        fault("cost 99 if kind", 15);
        fault("cost 9999 if kind=1 and paper<x", 30);
    }

    private static void numberBeyond() {
        DUE.sentence("Terms", "of rank 9, of bar 7, of cost 9.");
        String[] keys = {"rank ", "bar ", "cost "};
        int[] most = {9, 7, 9};
        for (int i = 0; i < keys.length; i++) {
            DUE.is(keys[i] + most[i], new Desk().rule(keys[i] + most[i]), 0);
            DUE.is(keys[i] + (most[i] + 1), new Desk().rule(keys[i] + (most[i] + 1)), NewsWire.NO);
            DUE.is(keys[i] + "9999", new Desk().rule(keys[i] + "9999"), NewsWire.NO);
            DUE.is(keys[i] + "0", new Desk().rule(keys[i] + "0"), 0);
        }
        DUE.is("no number of a test is beyond", new Desk().rule("bar 0 if paper=9999 and kind>99"), 0);
    }

    private static void tapeStays() {
        DUE.sentence("Promise 8", "-10 less the FAULT (THE TAPE stays); NO: its NUMBER.");
        Desk d = new Desk();
        DUE.is("a fault at 5", d.rule("rank "), -15);
        DUE.is("five bytes stay", d.wire.count(4), 5);
        DUE.is("a fault is none of the refusals", d.wire.status(NewsWire.NO), 0);
        d.wire.feed('8', 1);
        DUE.is("what is fed behind them makes it whole", d.wire.rule(0, 9), 0);
        d.piece(Desk.TAKE, 0, 0, 1);
        DUE.is("and it holds", d.wire.rank(0), 8);
        DUE.is("a number beyond", d.rule("bar 8"), NewsWire.NO);
        DUE.is("its five bytes stay", d.wire.count(4), 5);
        DUE.is("no rule came", d.wire.count(3), 1);
        Desk e = new Desk();
        e.piece(Desk.TAKE, 0, 0, 1);
        DUE.is("three tests and a fault", e.rule("bar 1 if kind>0 and kind>0 and kind>0x", 2, 3), -47);
        DUE.is("three tests and a number beyond", e.rule("bar 8 if kind>0 and kind>0 and kind>0", 2, 3), NewsWire.NO);
        DUE.is("then one with one test", e.rule("rank 9 if kind=0"), 0);
        DUE.is("has nothing of these: it holds", e.wire.holds(0, 0, NewsWire.NONE), 1);
        DUE.is("and gives the rank", e.wire.rank(0), 9);
        DUE.is("a test and a fault", e.rule("cost 1 if kind>0 x"), -27);
        DUE.is("then one with none", e.rule("rank 8"), 1);
        DUE.is("it holds", e.wire.rank(0), 8);
    }

    private static void inForce() {
        DUE.sentence("Terms", "A RULE HOLDS for a PIECE and a PAPER in a tick, if it is in force");
        Desk d = new Desk();
        d.piece(Desk.TAKE, 0, 0, 1);
        d.rule("rank 8", 0, 1);
        d.rule("rank 7", 2, 4);
        d.rule("rank 6", 99999, 100000);
        int[] first = {1, 0, 0, 0, 0};
        int[] second = {0, 0, 1, 1, 0};
        for (int tick = 0; tick < 5; tick++) {
            DUE.is("from 0 to 1 in " + tick, d.wire.holds(0, 0, 0), first[tick]);
            DUE.is("from 2 to 4 in " + tick, d.wire.holds(1, 0, 0), second[tick]);
            d.wire.run(1);
        }
        d.wire.run(493);
        for (int i = 0; i < 199; i++) {
            d.wire.run(500);
        }
        DUE.is("the open one", d.wire.count(0), 99998);
        DUE.is("from 99999 in 99998", d.wire.holds(2, 0, 0), 0);
        d.wire.run(1);
        DUE.is("in 99999", d.wire.holds(2, 0, 0), 1);
        d.wire.run(1);
        DUE.is("in 100000", d.wire.holds(2, 0, 0), 0);
    }

    private static void allTests() {
        DUE.sentence("Terms", "and all TESTS are so: by the PIECE's KIND, STORY, BUREAU, how many words, by the PAPER.");
        String[] names = {"kind", "story", "bureau", "words", "paper"};
        int[] values = {1, 6, 3, 12, 4};
        for (int i = 0; i < names.length; i++) {
            Desk d = new Desk();
            d.row(1);
            d.wire.piece(163, 512, 0, 0);
            String field = "cost 0 if " + names[i];
            d.rule(field + "=" + values[i]);
            d.rule(field + "=" + (values[i] + 1));
            d.rule(field + "<" + values[i]);
            d.rule(field + "<" + (values[i] + 1));
            d.rule(field + ">" + values[i]);
            d.rule(field + ">" + (values[i] - 1));
            int[] due = {1, 0, 0, 1, 0, 1};
            for (int rule = 0; rule < due.length; rule++) {
                DUE.is("rule " + rule + " by " + names[i], d.wire.holds(rule, 0, 4), due[rule]);
            }
        }
        Desk d = new Desk();
        d.piece(Desk.TAKE, 0, 0, 1);
        for (int wrong = 0; wrong < 4; wrong++) {
            d.rule("cost 0 if words=" + (wrong == 1 ? 2 : 1) + " and words=" + (wrong == 2 ? 2 : 1) + " and words="
                    + (wrong == 3 ? 2 : 1));
            DUE.is("test " + wrong + " of three is not so (0: all are)", d.wire.holds(wrong, 0, 0), wrong == 0 ? 1 : 0);
        }
        d.rule("cost 0");
        DUE.is("no tests are all so", d.wire.holds(4, 0, 0), 1);
    }

    private static void pieceAlone() {
        DUE.sentence("Terms", "For a PIECE alone (rank) a TEST of paper is not so.");
        Desk d = new Desk();
        d.piece(Desk.TAKE, 0, 0, 1);
        String[] tests = {"paper=0", "paper<8", "paper>0", "paper<9999", "kind=0 and paper<8"};
        for (int i = 0; i < tests.length; i++) {
            d.rule("rank 9 if " + tests[i]);
            DUE.is(tests[i] + " alone", d.wire.holds(i, 0, NewsWire.NONE), 0);
        }
        DUE.is("it has its rank as told", d.wire.rank(0), 5);
        d.rule("rank 9 if kind=0");
        DUE.is("another test is so alone", d.wire.holds(tests.length, 0, NewsWire.NONE), 1);
        DUE.is("and gives the rank", d.wire.rank(0), 9);
    }

    private static void holdsBeyond() {
        DUE.sentence("Promise 9", "(paper = NONE: for the PIECE alone): 1, 0. BEYOND.");
        Desk d = new Desk();
        DUE.is("no rule, no piece", d.wire.holds(0, 0, 0), NewsWire.BEYOND);
        d.piece(Desk.TAKE, 0, 0, 1);
        DUE.is("no rule", d.wire.holds(0, 0, 0), NewsWire.BEYOND);
        d.rule("rank 1");
        for (int rule : new int[] {-1, 1, 9, 10, LEAST, MOST}) {
            DUE.is("rule " + rule, d.wire.holds(rule, 0, 0), NewsWire.BEYOND);
        }
        for (int piece : new int[] {-1, 1, 39, 40, LEAST, MOST}) {
            DUE.is("piece " + piece, d.wire.holds(0, piece, 0), NewsWire.BEYOND);
        }
        for (int paper : new int[] {-2, 8, LEAST, MOST}) {
            DUE.is("paper " + paper, d.wire.holds(0, 0, paper), NewsWire.BEYOND);
        }
        for (int paper = -1; paper <= 7; paper++) {
            DUE.is("paper " + paper, d.wire.holds(0, 0, paper), 1);
        }
    }

    private static void rankOfLatest() {
        DUE.sentence("Terms", "by the rank RULE of the greatest number of its own (the latest) that HOLDS, else as it was "
                + "told.");
        Desk d = new Desk();
        d.piece(Desk.TAKE, 0, 0, 1);
        DUE.is("no rule", d.wire.rank(0), 5);
        d.rule("rank 9");
        DUE.is("one", d.wire.rank(0), 9);
        d.rule("rank 0");
        DUE.is("the latest, though its rank is less", d.wire.rank(0), 0);
        d.rule("rank 7 if kind=1");
        d.rule("rank 8", 1, 2);
        d.rule("cost 3");
        d.rule("bar 4");
        DUE.is("later ones that don't hold, or are of another key", d.wire.rank(0), 0);
        d.wire.run(1);
        DUE.is("the fourth holds in tick 1", d.wire.rank(0), 8);
        for (int i = 6; i < 9; i++) {
            d.rule("rank 1");
        }
        DUE.is("the tenth", d.rule("rank 2"), 9);
        DUE.is("by the tenth", d.wire.rank(0), 2);
    }

    private static void rankBounds() {
        DUE.sentence("Promise 10", "RANK of a PIECE in the open tick. BEYOND.");
        DUE.is("none", new NewsWire().rank(0), NewsWire.BEYOND);
        Desk d = new Desk();
        for (int i = 0; i < 40; i++) {
            d.ranked(Desk.TAKE, i % 10, 0, 0, 1);
        }
        for (int piece : new int[] {-1, 40, 41, LEAST, MOST}) {
            DUE.is("piece " + piece, d.wire.rank(piece), NewsWire.BEYOND);
        }
        DUE.is("the first", d.wire.rank(0), 0);
        DUE.is("the last", d.wire.rank(39), 9);
    }

    private static void barOfPaper() {
        DUE.sentence("Promise 11", "in the open tick: 1, 0. BEYOND.");
        Desk d = new Desk();
        DUE.is("no piece", d.wire.barred(0, 0), NewsWire.BEYOND);
        d.piece(Desk.TAKE, 0, 0, 1);
        for (int piece : new int[] {-1, 1, 39, 40, LEAST, MOST}) {
            DUE.is("piece " + piece, d.wire.barred(piece, 0), NewsWire.BEYOND);
        }
        for (int paper : new int[] {-1, 8, LEAST, MOST}) {
            DUE.is("paper " + paper, d.wire.barred(0, paper), NewsWire.BEYOND);
        }
        DUE.sentence("Terms", "BARRED is a PAPER from a PIECE, if a bar RULE with its number HOLDS.");
        DUE.is("no rule", d.wire.barred(0, 0), 0);
        d.rule("bar 0");
        d.rule("bar 7");
        d.rule("bar 0 if kind=1");
        d.rule("bar 3", 1, 2);
        d.rule("cost 2");
        d.rule("rank 1");
        for (int paper = 0; paper <= 7; paper++) {
            DUE.is("paper " + paper, d.wire.barred(0, paper), paper == 0 || paper == 7 ? 1 : 0);
        }
        d.wire.run(1);
        DUE.is("paper 3 in tick 1", d.wire.barred(0, 3), 1);
        d.wire.run(1);
        DUE.is("paper 3 in tick 2", d.wire.barred(0, 3), 0);
    }

    private static void costOfLatest() {
        DUE.sentence("Terms", "A word of it COSTS a PAPER what the cost RULE of the greatest number that HOLDS says, else 1.");
        Desk d = new Desk();
        d.wire.wire(0, 3, 1);
        d.wire.file(d.piece(Desk.TAKE, 0, 0, 1, 2, 3, 4, 5), 0);
        d.wire.run(1);
        DUE.is("no rule: 1", d.wire.cost(0), 1);
        d.rule("cost 9", 1, 9);
        d.wire.run(1);
        DUE.is("and 9", d.wire.cost(0), 10);
        d.rule("cost 0", 2, 9);
        d.wire.run(1);
        DUE.is("and 0, by the later one", d.wire.cost(0), 10);
        d.rule("cost 5 if paper=1", 0, 9);
        d.wire.run(1);
        DUE.is("paper 0 still 0", d.wire.cost(0), 10);
        DUE.is("paper 1 has 5 more", d.wire.cost(1), 15);
        d.rule("rank 7");
        d.rule("cost 4 if kind=1");
        d.wire.run(1);
        DUE.is("later ones that don't hold, or are of another key", d.wire.cost(1), 20);
    }
}
