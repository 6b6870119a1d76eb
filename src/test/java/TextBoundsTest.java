/** Paragraph 4 and promises 19 to 26, sentence by sentence: the least, the greatest, what is beyond, empty and full. */
public final class TextBoundsTest {
    private static final int LEAST = Integer.MIN_VALUE;
    private static final int MOST = Integer.MAX_VALUE;
    private static final int[] TWELVE = {1, 2, 3, 4, 5, 6, 7, 8, 9, 10, 11, 12};
    private static final Due DUE = new Due();

    public static void main(String[] args) {
        toldAs();
        ticks();
        textWhat();
        hadInThatTick();
        killed();
        killedPieces();
        heldTick();
        lead();
        parts();
        gap();
        corrects();
        correctsAsItCame();
        inserts();
        insertsAsItCame();
        readBounds();
        fromBounds();
        longestText();
        lastPiece();
        editionBounds();
        editionNow();
        printedBounds();
        printedLatest();
        behindSince();
        behindBrought();
        behindKinds();
        worthBounds();
        worthWords();
        worthChoice();
        worthEmptyAndFull();
        plans();
        counts();
        DUE.allPromises(19, 26);
        DUE.end();
    }

    private static Desk desk() {
        Desk d = new Desk();
        d.wire.wire(0, 129, 9);
        return d;
    }

    /** Puts a new PIECE on the wire and lets the one tick go by that it takes. */
    private static int send(Desk d, int kind, int x, int y, int... words) {
        int piece = d.piece(kind, x, y, words);
        d.send(piece, 0);
        return piece;
    }

    private static String now(Desk d) {
        return d.text(0, d.wire.count(0));
    }

    private static void toldAs() {
        DUE.sentence("Promise 19", "STORY and PAPER told as 10 * STORY + PAPER. BEYOND (STORY, PAPER, tick), NO.");
        Desk d = desk();
        d.row(3);
        d.wire.piece(70, 501, 0, 0);
        d.send(0, 0);
        for (int told : new int[] {-1, -10, 8, 9, 18, 19, 78, 79, 80, 87, 100, LEAST, MOST}) {
            DUE.is("told " + told, d.wire.text(told, 0, 0), NewsWire.BEYOND);
        }
        DUE.is("story 7 at paper 7", d.wire.text(77, 0, 0), 1);
        DUE.is("story 7 at paper 0", d.wire.text(70, 0, 0), 1);
        DUE.is("story 7 at paper 6", d.wire.text(76, 0, 0), 0);
        DUE.is("story 0 at paper 7", d.wire.text(7, 0, 0), 0);
        DUE.is("story 0 at paper 0", d.wire.text(0, 0, 0), 0);
    }

    private static void ticks() {
        DUE.sentence("Terms", "TEXT of a STORY at a PAPER in a tick (0 .. the open one)");
        Desk d = desk();
        send(d, Desk.TAKE, 0, 0, 1);
        d.wire.run(4);
        for (int tick : new int[] {-1, 6, 7, LEAST, MOST}) {
            DUE.is("text in " + tick, d.wire.text(0, tick, 0), NewsWire.BEYOND);
            DUE.is("read in " + tick, d.wire.read(0, tick, 0), NewsWire.BEYOND);
            DUE.is("from in " + tick, d.wire.from(0, tick, 0), NewsWire.BEYOND);
        }
        for (int tick = 0; tick <= 5; tick += 5) {
            DUE.is("text in " + tick, d.wire.text(0, tick, 0), 1);
            DUE.is("read in " + tick, d.wire.read(0, tick, 0), 1);
            DUE.is("from in " + tick, d.wire.from(0, tick, 0), 0);
        }
    }

    private static void textWhat() {
        DUE.sentence("Promise 19", "How many words the TEXT has (what = 0), the GAP (1; NONE), the PIECE that is its LEAD "
                + "(2; NONE), how many PARTS it has (3).");
        Desk d = desk();
        int[] empty = {0, NewsWire.NONE, NewsWire.NONE, 0};
        for (int what = 0; what <= 3; what++) {
            DUE.is("what " + what + " of an empty text", d.wire.text(0, 0, what), empty[what]);
        }
        for (int what : new int[] {-1, 4, LEAST, MOST}) {
            DUE.is("what " + what, d.wire.text(0, 0, what), NewsWire.NO);
        }
        send(d, Desk.LEAD, 0, 0, 1, 2);
        send(d, Desk.TAKE, 0, 0, 3);
        send(d, Desk.TAKE, 2, 0, 4);
        int[] due = {3, 1, 0, 1};
        for (int what = 0; what <= 3; what++) {
            DUE.is("what " + what, d.wire.text(0, 3, what), due[what]);
        }
    }

    private static void hadInThatTick() {
        DUE.sentence("Terms", "of the PIECES that it HAS by then (HAD in that tick or before)");
        Desk d = desk();
        d.wire.run(2);
        send(d, Desk.TAKE, 0, 0, 1);
        d.wire.run(2);
        int[] due = {0, 0, 1, 1, 1, 1};
        for (int tick = 0; tick <= 5; tick++) {
            DUE.is("in " + tick, d.wire.text(0, tick, 0), due[tick]);
        }
    }

    private static void killed() {
        DUE.sentence("Terms", "KILLED are those of which it HAS a KILL; they are not there.");
        Desk d = desk();
        d.wire.wire(0, 2, 9);
        int take = d.piece(Desk.TAKE, 0, 0, 1);
        d.send(take, 0);
        d.send(take, 1);
        send(d, Desk.KILL, take, 0, 9);
        DUE.is("ahead of the kill", d.text(0, 1), "1");
        DUE.is("in its tick", d.text(0, 2), "");
        DUE.is("behind it", d.text(0, 3), "");
        DUE.is("at a paper that hasn't the kill", d.text(1, 3), "1");
        DUE.is("a kill that was not sent", d.piece(Desk.KILL, take, 0, 9), 2);
        DUE.is("changes nothing", d.text(1, 3), "1");
    }

    private static void killedPieces() {
        DUE.sentence("Terms", "4 KILL of PIECE x.");
        Desk d = desk();
        int take = send(d, Desk.TAKE, 0, 0, 1, 2);
        int lead = send(d, Desk.LEAD, 0, 0, 3);
        int insert = send(d, Desk.INSERT, take, 1, 4);
        int correct = send(d, Desk.CORRECT, take, 0, 5);
        int held = send(d, Desk.HELD, 1, 0, 6);
        DUE.is("all are there", now(d), "3 5 4 2 6");
        send(d, Desk.KILL, insert, 0, 9);
        DUE.is("no insert", now(d), "3 5 2 6");
        send(d, Desk.KILL, correct, 0, 9);
        DUE.is("no correct", now(d), "3 1 2 6");
        send(d, Desk.KILL, held, 0, 9);
        DUE.is("no held one", now(d), "3 1 2");
        send(d, Desk.KILL, lead, 0, 9);
        DUE.is("no lead", now(d), "1 2");
        send(d, Desk.KILL, take, 0, 9);
        DUE.is("no take", now(d), "");
        send(d, Desk.KILL, take, 0, 9);
        DUE.is("killed twice", now(d), "");
    }

    private static void heldTick() {
        DUE.sentence("Terms", "HELD ones are not there ahead of their tick.");
        Desk d = desk();
        send(d, Desk.TAKE, 0, 0, 1);
        send(d, Desk.HELD, 0, 4, 2);
        d.wire.run(3);
        String[] due = {"1", "1", "1", "1", "2", "2"};
        for (int tick = 0; tick <= 5; tick++) {
            DUE.is("in " + tick, d.text(0, tick), due[tick]);
        }
        Desk e = desk();
        send(e, Desk.HELD, 0, 0, 3);
        DUE.is("held to 0, in 0", e.text(0, 0), "3");
        Desk f = desk();
        send(f, Desk.HELD, 0, 100000, 3);
        DUE.is("held to 100000", f.text(0, 1), "");
        DUE.is("leaves no gap", f.wire.text(0, 1, 1), NewsWire.NONE);
    }

    private static void lead() {
        DUE.sentence("Terms", "First the LEAD of the greatest number, if there is one");
        Desk d = desk();
        send(d, Desk.TAKE, 0, 0, 1);
        DUE.is("none", d.wire.text(0, 1, 2), NewsWire.NONE);
        int lesser = d.piece(Desk.LEAD, 0, 0, 2);
        int greater = send(d, Desk.LEAD, 0, 0, 3);
        d.send(lesser, 0);
        DUE.is("of the greatest number, not the latest to come in", now(d), "3 1");
        send(d, Desk.KILL, greater, 0, 9);
        DUE.is("of those that are there", now(d), "2 1");
        DUE.is("its number", d.wire.text(0, d.wire.count(0), 2), lesser);
        send(d, Desk.KILL, lesser, 0, 9);
        DUE.is("none again", now(d), "1");
        Desk e = desk();
        send(e, Desk.LEAD, 0, 0, 2);
        DUE.is("piece 0 is one", e.wire.text(0, 1, 2), 0);
        DUE.is("it is no part", e.wire.text(0, 1, 3), 0);
    }

    private static void parts() {
        DUE.sentence("Terms", "then PART by PART, from 0 on, the TAKE or HELD one of the greatest number that is there");
        Desk d = desk();
        for (int part = 7; part >= 0; part--) {
            send(d, part % 2 == 0 ? Desk.TAKE : Desk.HELD, part, 0, part);
            DUE.is("parts from " + part + " on", now(d), part == 0 ? "0 1 2 3 4 5 6 7" : "");
        }
        DUE.is("eight", d.wire.text(0, 8, 3), 8);
        DUE.is("the eighth is the last: no gap", d.wire.text(0, 8, 1), NewsWire.NONE);
        int lesser = d.piece(Desk.TAKE, 7, 0, 70);
        int greater = send(d, Desk.HELD, 7, 0, 71);
        d.send(lesser, 0);
        DUE.is("of the greatest number, not the latest to come in", now(d), "0 1 2 3 4 5 6 71");
        send(d, Desk.KILL, greater, 0, 9);
        DUE.is("that is there", now(d), "0 1 2 3 4 5 6 70");
        DUE.is("by its number", d.wire.from(0, d.wire.count(0), 7), lesser);
    }

    private static void gap() {
        DUE.sentence("Terms", "up to the first PART of which none is: that is the GAP, if some later PART is there (else "
                + "there is none).");
        for (int there = 0; there <= 7; there++) {
            for (int later = there + 1; later <= 7; later++) {
                Desk d = desk();
                for (int part = 0; part < there; part++) {
                    d.wire.file(d.piece(Desk.TAKE, part, 0, part), 0);
                }
                d.wire.run(1);
                DUE.is(there + " parts alone", d.wire.text(0, 1, 1), NewsWire.NONE);
                send(d, Desk.TAKE, later, 0, 9);
                String what = there + " parts and part " + later;
                DUE.is(what + ": gap", d.wire.text(0, 2, 1), later == there ? NewsWire.NONE : there);
                DUE.is(what + ": parts", d.wire.text(0, 2, 3), later == there ? there + 1 : there);
                DUE.is(what + ": words", d.wire.text(0, 2, 0), later == there ? there + 1 : there);
            }
        }
    }

    private static void corrects() {
        DUE.sentence("Terms", "Each with its CORRECTS that are there, by numbers");
        Desk d = desk();
        int take = send(d, Desk.TAKE, 0, 0, 1, 2, 3);
        int lesser = d.piece(Desk.CORRECT, take, 0, 4, 5);
        int greater = send(d, Desk.CORRECT, take, 1, 6, 7);
        DUE.is("the last words of it", now(d), "1 6 7");
        d.send(lesser, 0);
        DUE.is("where both stand the greater number", now(d), "4 6 7");
        send(d, Desk.KILL, greater, 0, 9);
        DUE.is("the lesser alone", now(d), "4 5 3");
        send(d, Desk.CORRECT, take, 0, 8, 8, 8);
        DUE.is("all of it", now(d), "8 8 8");
    }

    private static void correctsAsItCame() {
        DUE.sentence("Terms", "(the words they stand for are those as it came)");
        Desk d = desk();
        int take = send(d, Desk.TAKE, 0, 0, 1, 2, 3);
        send(d, Desk.INSERT, take, 0, 21, 22);
        send(d, Desk.CORRECT, take, 2, 4);
        DUE.is("the third word, though two were put in ahead", now(d), "21 22 1 2 4");
        send(d, Desk.CORRECT, take, 0, 5);
        DUE.is("the first word, not the one put in", now(d), "21 22 5 2 4");
    }

    private static void inserts() {
        DUE.sentence("Terms", "several at one place by numbers.");
        Desk d = desk();
        int take = send(d, Desk.TAKE, 0, 0, 1, 2);
        for (int y = 0; y <= 2; y++) {
            int lesser = d.piece(Desk.INSERT, take, y, 20 + y);
            send(d, Desk.INSERT, take, y, 30 + y, 40 + y);
            d.send(lesser, 0);
        }
        DUE.is("at each place", now(d), "20 30 40 1 21 31 41 2 22 32 42");
    }

    private static void insertsAsItCame() {
        DUE.sentence("Terms", "each ahead of the word that was y as it came");
        Desk d = desk();
        int take = send(d, Desk.TAKE, 0, 0, 1, 2);
        send(d, Desk.INSERT, take, 0, 5, 6, 7);
        send(d, Desk.INSERT, take, 1, 8);
        send(d, Desk.INSERT, take, 2, 9);
        DUE.is("though others were put in ahead", now(d), "5 6 7 1 8 2 9");
        int lead = d.piece(Desk.LEAD, 0, 0, 3);
        send(d, Desk.INSERT, lead, 1, 4);
        DUE.is("into one that is not there", now(d), "5 6 7 1 8 2 9");
        d.send(lead, 0);
        DUE.is("then it is", now(d), "3 4 5 6 7 1 8 2 9");
    }

    private static void readBounds() {
        DUE.sentence("Promise 20", "Word i of the TEXT. BEYOND (likewise, i).");
        Desk d = desk();
        DUE.is("of an empty text", d.wire.read(0, 0, 0), NewsWire.BEYOND);
        send(d, Desk.TAKE, 0, 0, 7, 8);
        for (int told : new int[] {-1, 8, 78, 80, LEAST, MOST}) {
            DUE.is("told " + told, d.wire.read(told, 1, 0), NewsWire.BEYOND);
        }
        for (int i : new int[] {-1, 2, 479, 480, LEAST, MOST}) {
            DUE.is("word " + i, d.wire.read(0, 1, i), NewsWire.BEYOND);
        }
        DUE.is("the first", d.wire.read(0, 1, 0), 7);
        DUE.is("the last", d.wire.read(0, 1, 1), 8);
    }

    private static void fromBounds() {
        DUE.sentence("Promise 21", "The PIECE that brought word i of the TEXT. BEYOND likewise.");
        Desk d = desk();
        DUE.is("of an empty text", d.wire.from(0, 0, 0), NewsWire.BEYOND);
        int take = send(d, Desk.TAKE, 0, 0, 7, 8);
        for (int told : new int[] {-1, 8, 78, 80, LEAST, MOST}) {
            DUE.is("told " + told, d.wire.from(told, 1, 0), NewsWire.BEYOND);
        }
        for (int i : new int[] {-1, 2, 479, 480, LEAST, MOST}) {
            DUE.is("word " + i, d.wire.from(0, 1, i), NewsWire.BEYOND);
        }
        int correct = send(d, Desk.CORRECT, take, 1, 8);
        int insert = send(d, Desk.INSERT, take, 1, 8);
        DUE.is("though the words are the same", d.from(0, 3), take + " " + insert + " " + correct);
    }

    private static void longestText() {
        DUE.sentence("Promise 20", "Word i of the TEXT.");
        Desk d = desk();
        int take = d.piece(Desk.TAKE, 0, 0, TWELVE);
        d.wire.file(take, 0);
        d.row(TWELVE);
        for (int i = 1; i < 40; i++) {
            d.wire.piece(200, 512, take, 12);
        }
        for (int i = 1; i < 40; i++) {
            d.wire.file(i, 0);
            d.wire.run(2);
        }
        d.wire.run(20);
        DUE.is("forty pieces of twelve words", d.wire.text(0, d.wire.count(0), 0), 480);
        DUE.is("word 479", d.wire.read(0, d.wire.count(0), 479), 12);
        DUE.is("piece 39 brought it", d.wire.from(0, d.wire.count(0), 479), 39);
        DUE.is("word 480", d.wire.read(0, d.wire.count(0), 480), NewsWire.BEYOND);
        DUE.is("an edition of 480", d.wire.edition(7), 480);
        DUE.is("its words", d.wire.printed(7, 1), 480);
    }

    private static void lastPiece() {
        DUE.sentence("Terms", "the LEAD of the greatest number");
        for (int kind : new int[] {Desk.LEAD, Desk.TAKE, Desk.HELD, Desk.INSERT, Desk.CORRECT, Desk.KILL}) {
            Desk d = desk();
            d.row(1);
            for (int i = 0; i < 39; i++) {
                d.wire.piece(i == 0 ? 0 : 100, 501, 0, 0);
            }
            d.row(2);
            DUE.is("the fortieth, of kind " + kind, d.wire.piece(100 * kind, 501, 0, 0), 39);
            d.send(0, 0);
            d.send(38, 0);
            d.send(39, 0);
            String[] due = {"1 2", "2 1", "1 2 1", "1 2", "1", "1 2"};
            DUE.is("with the fortieth, of kind " + kind, d.text(0, 3), due[kind]);
        }
    }

    private static void editionBounds() {
        DUE.sentence("Promise 22", "An EDITION: how many words, of all STORIES. BEYOND.");
        Desk d = desk();
        for (int paper : new int[] {-1, 8, LEAST, MOST}) {
            DUE.is("paper " + paper, d.wire.edition(paper), NewsWire.BEYOND);
        }
        for (int paper = 0; paper <= 7; paper++) {
            DUE.is("an empty one of paper " + paper, d.wire.edition(paper), 0);
        }
        d.row(TWELVE);
        for (int story = 0; story <= 7; story++) {
            d.wire.piece(10 * story, 501 + story, 0, 0);
            d.send(story, 0);
        }
        DUE.is("eight stories", d.wire.edition(7), 36);
        DUE.is("none at paper 6", d.wire.edition(6), 0);
    }

    private static void editionNow() {
        DUE.sentence("Terms", "An EDITION of a PAPER is printed in the open tick: TEXTS of all that the PAPER HAS by now.");
        Desk d = desk();
        send(d, Desk.TAKE, 0, 0, 1);
        send(d, Desk.HELD, 1, 3, 2, 3);
        send(d, Desk.TAKE, 3, 0, 4);
        DUE.is("a held one whose tick is open, up to the gap", d.wire.edition(0), 3);
        DUE.is("in the open tick", d.wire.printed(0, 0), 3);
        Desk e = desk();
        send(e, Desk.TAKE, 0, 0, 1);
        send(e, Desk.HELD, 1, 3, 2, 3);
        DUE.is("a held one a tick too early", e.wire.edition(0), 1);
        e.wire.run(1);
        DUE.is("what was printed stays", e.wire.printed(0, 1), 1);
        DUE.is("and now", e.wire.edition(0), 3);
    }

    private static void printedBounds() {
        DUE.sentence("Promise 23", "BEYOND, MISSING: there was none; NO.");
        Desk d = desk();
        for (int paper : new int[] {-1, 8, LEAST, MOST}) {
            DUE.is("paper " + paper, d.wire.printed(paper, 0), NewsWire.BEYOND);
        }
        for (int what = 0; what <= 3; what++) {
            DUE.is("none yet, what " + what, d.wire.printed(7, what), NewsWire.MISSING);
        }
        d.wire.edition(7);
        for (int what : new int[] {-1, 4, LEAST, MOST}) {
            DUE.is("what " + what, d.wire.printed(7, what), NewsWire.NO);
        }
        int[] due = {0, 0, 0, NewsWire.NONE};
        for (int what = 0; what <= 3; what++) {
            DUE.is("an empty one in tick 0, what " + what, d.wire.printed(7, what), due[what]);
        }
        DUE.is("none of paper 6", d.wire.printed(6, 0), NewsWire.MISSING);
    }

    private static void printedLatest() {
        DUE.sentence("Promise 23", "Of the latest EDITION of a PAPER: its tick (what = 0), words (1)");
        Desk d = desk();
        int take = send(d, Desk.TAKE, 0, 0, 1, 2);
        d.wire.edition(0);
        send(d, Desk.KILL, take, 0, 9);
        DUE.is("the tick of the first", d.wire.printed(0, 0), 1);
        DUE.is("its words, though they are killed", d.wire.printed(0, 1), 2);
        DUE.is("one behind", d.wire.printed(0, 2), 1);
        d.wire.edition(0);
        DUE.is("the tick of the second", d.wire.printed(0, 0), 2);
        DUE.is("its words", d.wire.printed(0, 1), 0);
        DUE.is("none behind it", d.wire.printed(0, 2), 0);
        DUE.is("no least", d.wire.printed(0, 3), NewsWire.NONE);
    }

    private static void behindSince() {
        DUE.sentence("Terms", "BEHIND it are KILLS and CORRECTS that the PAPER HAS since that tick or a later one");
        Desk d = desk();
        int take = send(d, Desk.TAKE, 0, 0, 1, 2);
        send(d, Desk.CORRECT, take, 0, 3);
        d.wire.edition(0);
        DUE.is("one of the tick ahead is not", d.wire.printed(0, 2), 0);
        int same = send(d, Desk.CORRECT, take, 0, 4);
        DUE.is("had in the tick of the edition", d.wire.since(same, 0), d.wire.printed(0, 0));
        DUE.is("one of the same tick is", d.wire.printed(0, 2), 1);
        DUE.is("the least", d.wire.printed(0, 3), same);
        int later = send(d, Desk.KILL, take, 0, 9);
        DUE.is("one of a later tick is", d.wire.printed(0, 2), 2);
        d.piece(Desk.KILL, take, 0, 9);
        DUE.is("one that was not sent is not", d.wire.printed(0, 2), 2);
        DUE.is("another paper has an edition of its own", d.wire.printed(7, 2), NewsWire.MISSING);
        d.wire.edition(7);
        DUE.is("none behind that", d.wire.printed(7, 2), 0);
        DUE.is("numbers as they came", later, 3);
    }

    private static void behindBrought() {
        DUE.sentence("Terms", "of PIECES that brought (as from() tells) a word that was printed.");
        Desk d = desk();
        int take = send(d, Desk.TAKE, 0, 0, 1);
        int whole = send(d, Desk.CORRECT, take, 0, 2);
        int old = send(d, Desk.TAKE, 1, 0, 3);
        int young = send(d, Desk.TAKE, 1, 0, 4, 5);
        int insert = send(d, Desk.INSERT, young, 0, 6);
        int lead = send(d, Desk.LEAD, 0, 0, 7);
        int late = send(d, Desk.TAKE, 3, 0, 8);
        DUE.is("printed", d.wire.edition(0), 5);
        DUE.is("by these", d.from(0, d.wire.count(0)), lead + " " + whole + " " + insert + " " + young + " " + young);
        int[] targets = {take, old, late, whole, young, insert, lead};
        int due = 0;
        for (int i = 0; i < targets.length; i++) {
            send(d, Desk.KILL, targets[i], 0, 9);
            due += i < 3 ? 0 : 1;
            DUE.is("behind, with a kill of piece " + targets[i], d.wire.printed(0, 2), due);
        }
        DUE.is("the least", d.wire.printed(0, 3), 10);
    }

    private static void behindKinds() {
        DUE.sentence("Promise 23", "how many PIECES are BEHIND it now (2), the least of these (3; NONE)");
        Desk d = desk();
        int take = send(d, Desk.TAKE, 0, 0, 1, 2);
        d.wire.edition(0);
        send(d, Desk.INSERT, take, 0, 3);
        send(d, Desk.TAKE, 0, 0, 4);
        send(d, Desk.LEAD, take, 0, 4);
        send(d, Desk.HELD, 0, 0, 4);
        DUE.is("none but kills and corrects", d.wire.printed(0, 2), 0);
        DUE.is("no least", d.wire.printed(0, 3), NewsWire.NONE);
        int lesser = d.piece(Desk.CORRECT, take, 0, 4);
        int greater = send(d, Desk.KILL, take, 0, 4);
        DUE.is("a kill", d.wire.printed(0, 2), 1);
        DUE.is("is the least", d.wire.printed(0, 3), greater);
        d.send(lesser, 0);
        DUE.is("a correct of a killed one", d.wire.printed(0, 2), 2);
        DUE.is("is the least now", d.wire.printed(0, 3), lesser);
        Desk e = desk();
        int last = send(e, Desk.TAKE, 0, 0, 1);
        e.wire.edition(0);
        for (int i = 1; i < 40; i++) {
            send(e, Desk.CORRECT, last, 0, 4);
        }
        DUE.is("39 behind", e.wire.printed(0, 2), 39);
        DUE.is("the least of 39", e.wire.printed(0, 3), 1);
    }

    private static void worthBounds() {
        DUE.sentence("Promise 24", "in n ticks (0 .. 1000). BEYOND, BELOW, NO.");
        DUE.is("no wire", new NewsWire().worth(0, 0), NewsWire.BEYOND);
        Desk d = desk();
        d.wire.file(d.piece(Desk.TAKE, 0, 0, 1), 0);
        for (int wire : new int[] {-1, 1, 5, 6, LEAST, MOST}) {
            DUE.is("wire " + wire, d.wire.worth(wire, 0), NewsWire.BEYOND);
        }
        DUE.is("n -1", d.wire.worth(0, -1), NewsWire.BELOW);
        DUE.is("the least n", d.wire.worth(0, LEAST), NewsWire.BELOW);
        DUE.is("n 1001", d.wire.worth(0, 1001), NewsWire.NO);
        DUE.is("the greatest n", d.wire.worth(0, MOST), NewsWire.NO);
        DUE.is("n 0", d.wire.worth(0, 0), 0);
        DUE.is("n 1", d.wire.worth(0, 1), 6);
        DUE.is("n 1000", d.wire.worth(0, 1000), 6);
    }

    private static void worthWords() {
        DUE.sentence("Terms", "sets whose words that are still to be heard are SPEED n at most, together");
        Desk d = new Desk();
        d.wire.wire(0, 1, 2);
        d.wire.file(d.piece(Desk.TAKE, 0, 0, 1, 2, 3, 4, 5), 0);
        DUE.is("five words in two ticks of two", d.wire.worth(0, 2), 0);
        DUE.is("in three", d.wire.worth(0, 3), 6);
        d.wire.garble(0, 1);
        d.wire.run(2);
        DUE.is("three are still to be heard: in one tick", d.wire.worth(0, 1), 0);
        DUE.is("in two", d.wire.worth(0, 2), 6);
        d.wire.file(d.piece(Desk.TAKE, 0, 0, 1), 0);
        DUE.is("four together, just as many", d.wire.worth(0, 2), 12);
        d.wire.file(d.piece(Desk.TAKE, 0, 0, 1), 0);
        DUE.is("five are one too many", d.wire.worth(0, 2), 12);
    }

    private static int worth(int n, int[]... ranksAndWords) {
        return wire(ranksAndWords).worth(0, n);
    }

    private static int plan(int n, int[]... ranksAndWords) {
        NewsWire x = wire(ranksAndWords);
        x.worth(0, n);
        return x.plan();
    }

    private static NewsWire wire(int[]... ranksAndWords) {
        Desk d = new Desk();
        d.wire.wire(0, 1, 1);
        d.row(TWELVE);
        for (int i = 0; i < ranksAndWords.length; i++) {
            d.wire.piece(0, 100 * ranksAndWords[i][0] + ranksAndWords[i][1], 0, 0);
            d.wire.file(i, 0);
        }
        return d.wire;
    }

    private static void worthChoice() {
        DUE.sentence("Terms", "that with the greatest sum of RANKS (now) and 1 each; of these with the fewest words, of "
                + "these the least as a number (bit i: the i-th of them, as they were FILED).");
        DUE.is("rank 0 is worth 1", worth(1, new int[] {0, 1}), 1);
        DUE.is("and is taken", plan(1, new int[] {0, 1}), 1);
        DUE.is("two of rank 0 against one of rank 0", plan(2, new int[] {0, 2}, new int[] {0, 1}, new int[] {0, 1}), 6);
        DUE.is("rank 9 is worth 10", worth(1, new int[] {9, 1}), 10);
        DUE.is("the 1 each counts: 4 and 4 against 9", worth(2, new int[] {8, 2}, new int[] {4, 1}, new int[] {4, 1}), 10);
        DUE.is("these two", plan(2, new int[] {8, 2}, new int[] {4, 1}, new int[] {4, 1}), 6);
        DUE.is("the fewest words, not the least number", plan(3, new int[] {5, 3}, new int[] {5, 2}), 2);
        DUE.is("of as many words the least number", plan(2, new int[] {5, 2}, new int[] {5, 2}), 1);
        DUE.is("the least of 5 and 6", plan(3, new int[] {3, 1}, new int[] {3, 1}, new int[] {5, 2}), 5);
        DUE.is("a sum above few words", plan(9, new int[] {1, 1}, new int[] {2, 9}), 2);
        NewsWire x = wire(new int[] {5, 2}, new int[] {5, 1}, new int[] {5, 2});
        x.run(2);
        DUE.is("one is done: two in three ticks", x.worth(0, 3), 12);
        DUE.is("bits of those that are left", x.plan(), 3);
        DUE.is("the one of fewest words is the first now", x.worth(0, 1), 6);
        DUE.is("its bit", x.plan(), 1);
        Desk d = new Desk();
        d.wire.wire(0, 1, 1);
        d.piece(Desk.TAKE, 0, 0, 1);
        d.ranked(Desk.TAKE, 6, 0, 0, 1);
        d.wire.file(1, 0);
        d.wire.file(0, 0);
        d.wire.worth(0, 1);
        DUE.is("as they were filed, not by their numbers", d.wire.plan(), 1);
        d.rule("rank 0 if words=1", 1, 2);
        DUE.is("ranks of the open tick, ahead of a rule", d.wire.worth(0, 2), 13);
    }

    private static void worthEmptyAndFull() {
        DUE.sentence("Promise 24", "WORTH that a WIRE can still bring");
        Desk none = new Desk();
        none.wire.wire(0, 1, 9);
        DUE.is("nothing filed", none.wire.worth(0, 1000), 0);
        int[][] twelve = new int[12][];
        for (int i = 0; i < 12; i++) {
            twelve[i] = new int[] {9, 12};
        }
        DUE.is("twelve of twelve words", worth(144, twelve), 120);
        DUE.is("all of them", plan(144, twelve), 4095);
        DUE.is("one word too few", worth(143, twelve), 110);
        DUE.is("the least eleven", plan(143, twelve), 2047);
        DUE.is("in 1000 ticks", worth(1000, twelve), 120);
        NewsWire x = wire(twelve);
        x.worth(0, 1000);
        x.run(1);
        DUE.is("143 words", x.worth(0, 143), 120);
        DUE.is("in 1000 ticks", x.worth(0, 1000), 120);
        x.run(143);
        DUE.is("nothing is left of them", x.worth(0, 1000), 0);
        DUE.is("in 11 ticks none", worth(11, twelve), 0);
        twelve[11] = new int[] {9, 1};
        DUE.is("the twelfth alone", plan(1, twelve), 2048);
    }

    private static void plans() {
        DUE.sentence("Promise 25", "The set of the latest worth() that wasn't refused, as bits (0 ahead of any).");
        Desk d = desk();
        d.wire.wire(0, 1, 1);
        DUE.is("ahead of any", d.wire.plan(), 0);
        d.wire.worth(0, -1);
        DUE.is("ahead of any that wasn't refused", d.wire.plan(), 0);
        d.wire.file(d.piece(Desk.TAKE, 0, 0, 1), 0);
        DUE.is("filing changes nothing", d.wire.plan(), 0);
        d.wire.worth(0, 1);
        DUE.is("one", d.wire.plan(), 1);
        d.wire.worth(0, 1001);
        d.wire.worth(0, -1);
        d.wire.worth(2, 1);
        DUE.is("three were refused", d.wire.plan(), 1);
        d.wire.run(1);
        DUE.is("when it is done it stays", d.wire.plan(), 1);
        d.wire.worth(1, 1);
        DUE.is("an empty one of another wire", d.wire.plan(), 0);
    }

    private static void counts() {
        DUE.sentence("Promise 26", "The open tick (what = 0), WIRES (1), PIECES (2), RULES (3), bytes of THE TAPE (4), words "
                + "that were sent (5), heard (6), GARBLED ticks that are open or later (7). NO.");
        Desk d = desk();
        for (int what : new int[] {-1, 8, LEAST, MOST}) {
            DUE.is("what " + what, d.wire.count(what), NewsWire.NO);
        }
        d.wire.wire(0, 1, 1);
        d.wire.garble(0, 0);
        d.wire.garble(0, 2);
        d.wire.garble(1, 2);
        d.wire.garble(1, 500);
        for (int i = 0; i < 4; i++) {
            d.wire.file(d.piece(Desk.TAKE, 0, 0, 1, 2), 0);
        }
        d.rule("rank 1");
        d.rule("rank 1");
        d.rule("rank 1");
        d.wire.run(2);
        d.tape("rank 1");
        int[] due = {2, 2, 4, 3, 6, 17, 8, 3};
        for (int what = 0; what <= 7; what++) {
            DUE.is("what " + what, d.wire.count(what), due[what]);
        }
        d.wire.run(1);
        DUE.is("garbled ticks that are past don't count", d.wire.count(7), 1);
        d.wire.run(497);
        DUE.is("the open one counts", d.wire.count(7), 1);
        d.wire.run(1);
        DUE.is("none", d.wire.count(7), 0);
    }
}
