/** Paragraph 1 and promises 1 to 5, sentence by sentence: the least, the greatest, what is beyond, empty and full. */
public final class PieceBoundsTest {
    private static final int LEAST = Integer.MIN_VALUE;
    private static final int MOST = Integer.MAX_VALUE;
    private static final Due DUE = new Due();

    public static void main(String[] args) {
        newObject();
        openTick();
        wireBureau();
        wirePapers();
        wireSpeed();
        wireFull();
        rowMissing();
        toldStoryAndBureau();
        toldBelow();
        targetMissing();
        kind();
        rank();
        words();
        wordNumbers();
        part();
        heldTick();
        targetKind();
        targetStory();
        insertPlace();
        correctPlace();
        piecesFull();
        freeNumbers();
        lookBeyond();
        lookWhat();
        lookNones();
        wordBeyond();
        wordAsItCame();
        DUE.allPromises(1, 5);
        DUE.end();
    }

    private static void newObject() {
        DUE.sentence("Promise 1", "No WIRES, PIECES, RULES; THE TAPE is empty.");
        NewsWire x = new NewsWire();
        DUE.is("wires", x.count(1), 0);
        DUE.is("pieces", x.count(2), 0);
        DUE.is("rules", x.count(3), 0);
        DUE.is("bytes", x.count(4), 0);
        DUE.is("a garbling of wire 0", x.garble(0, 0), NewsWire.BEYOND);
        DUE.is("rank of piece 0", x.rank(0), NewsWire.BEYOND);
        x.wire(0, 1, 1);
        DUE.is("filing of piece 0 when there is a wire", x.file(0, 0), NewsWire.BEYOND);
        x.tell(0, 1);
        DUE.is("the first piece", x.piece(0, 101, 0, 0), 0);
        DUE.is("rule 0 when there is a piece", x.holds(0, 0, 0), NewsWire.BEYOND);
        DUE.is("an empty tape", x.wipe(), 0);
        DUE.is("an empty tape is no rule: it ends at place 0", x.rule(0, 1), -10);
        DUE.is("a new object beside it has none of it", new NewsWire().count(2), 0);
    }

    private static void openTick() {
        DUE.sentence("What it is", "TICKS are numbered; the one that is open is 0 at first.");
        NewsWire x = new NewsWire();
        DUE.is("the open one", x.count(0), 0);
        DUE.is("a text in it", x.text(0, 0, 0), 0);
        DUE.is("a text in tick 1", x.text(0, 1, 0), NewsWire.BEYOND);
        DUE.is("an edition", x.edition(0), 0);
        DUE.is("printed in it", x.printed(0, 0), 0);
        x.wire(0, 1, 1);
        DUE.is("garbled", x.garble(0, 0), 1);
        DUE.is("nothing happens in a tick without pieces", x.run(1), 0);
        DUE.is("the next one", x.count(0), 1);
    }

    private static void wireBureau() {
        DUE.sentence("Promise 2", "BEYOND: BUREAU");
        for (int bureau : new int[] {-1, 6, 7, LEAST, MOST}) {
            NewsWire x = new NewsWire();
            DUE.is("bureau " + bureau, x.wire(bureau, 1, 1), NewsWire.BEYOND);
            DUE.is("no wire came", x.count(1), 0);
        }
        DUE.sentence("Terms", "BUREAUS 0 .. 5");
        DUE.is("bureau 0", new NewsWire().wire(0, 1, 1), 0);
        DUE.is("bureau 5", new NewsWire().wire(5, 1, 1), 0);
    }

    private static void wirePapers() {
        DUE.sentence("Promise 2", "NO: PAPERS, SPEED");
        for (int papers : new int[] {0, 256, 257, -1, LEAST, MOST}) {
            NewsWire x = new NewsWire();
            DUE.is("papers " + papers, x.wire(0, papers, 1), NewsWire.NO);
            DUE.is("no wire came", x.count(1), 0);
        }
        for (int speed : new int[] {0, 10, -1, LEAST, MOST}) {
            NewsWire x = new NewsWire();
            DUE.is("speed " + speed, x.wire(0, 1, speed), NewsWire.NO);
            DUE.is("no wire came", x.count(1), 0);
        }
        DUE.sentence("Terms", "to a set of PAPERS (bits, 1 .. 255)");
        for (int set : new int[] {1, 2, 4, 8, 16, 32, 64, 128, 255}) {
            Desk d = new Desk();
            DUE.is("papers " + set, d.wire.wire(0, set, 1), 0);
            d.send(d.piece(Desk.TAKE, 0, 0, 7), 0);
            for (int paper = 0; paper < 8; paper++) {
                boolean goes = set == 255 || set == 1 << paper;
                DUE.is("papers " + set + ": paper " + paper, d.wire.since(0, paper), goes ? 0 : NewsWire.NONE);
            }
        }
    }

    private static void wireSpeed() {
        DUE.sentence("Terms", "with a SPEED (1 .. 9 words a tick)");
        for (int speed = 1; speed <= 9; speed += 8) {
            Desk d = new Desk();
            DUE.is("speed " + speed, d.wire.wire(0, 1, speed), 0);
            d.wire.file(d.piece(Desk.TAKE, 0, 0, 1, 2, 3, 4, 5, 6, 7, 8, 9, 10), 0);
            DUE.is("words in a tick of speed " + speed, d.wire.run(1), speed);
        }
    }

    private static void wireFull() {
        DUE.sentence("Terms", "WIRES 0 .. 5 as they come");
        NewsWire x = new NewsWire();
        for (int i = 0; i <= 5; i++) {
            DUE.is("wire " + i, x.wire(5 - i, 255 - i, 9 - i), i);
        }
        DUE.sentence("Promise 2", "FULL.");
        DUE.is("the seventh", x.wire(0, 1, 1), NewsWire.FULL);
        DUE.is("six stay", x.count(1), 6);
    }

    private static void rowMissing() {
        DUE.sentence("Promise 3", "MISSING: THE ROW");
        NewsWire x = new NewsWire();
        DUE.is("at first", x.piece(0, 101, 0, 0), NewsWire.MISSING);
        x.tell(0, 1);
        DUE.is("told", x.piece(0, 101, 0, 0), 0);
        x.tear();
        DUE.is("torn", x.piece(0, 101, 0, 0), NewsWire.MISSING);
        x.lay(0);
        DUE.is("laid", x.piece(0, 101, 0, 0), 1);
    }

    private static void toldStoryAndBureau() {
        DUE.sentence("Promise 3", "BEYOND: STORY, BUREAU");
        Desk d = new Desk();
        d.row(1);
        for (int kind = 0; kind <= 5; kind++) {
            DUE.is("story 8 of kind " + kind, d.wire.piece(100 * kind + 80, 101, 0, 0), NewsWire.BEYOND);
            DUE.is("story 9 of kind " + kind, d.wire.piece(100 * kind + 95, 101, 0, 0), NewsWire.BEYOND);
            DUE.is("bureau 6 of kind " + kind, d.wire.piece(100 * kind + 6, 101, 0, 0), NewsWire.BEYOND);
            DUE.is("bureau 9 of kind " + kind, d.wire.piece(100 * kind + 79, 101, 0, 0), NewsWire.BEYOND);
        }
        DUE.is("none came", d.wire.count(2), 0);
        DUE.sentence("Terms", "STORIES 0 .. 7, BUREAUS 0 .. 5");
        DUE.is("story 0, bureau 0", d.wire.piece(0, 101, 0, 0), 0);
        DUE.is("story 7, bureau 5", d.wire.piece(75, 101, 0, 0), 1);
        DUE.is("its story", d.wire.look(1, 1), 7);
        DUE.is("its bureau", d.wire.look(1, 2), 5);
    }

    private static void toldBelow() {
        DUE.sentence("Promise 3", "(told below 0, too)");
        Desk d = new Desk();
        d.row(1);
        for (int told : new int[] {-1, -10, -99, -100, -101, LEAST}) {
            DUE.is("told " + told, d.wire.piece(told, 101, 0, 0), NewsWire.BEYOND);
        }
    }

    private static void targetMissing() {
        DUE.sentence("Promise 3", "PIECE x (of 2, 3, 4: none such)");
        Desk d = new Desk();
        int take = d.piece(Desk.TAKE, 0, 0, 1);
        for (int kind = Desk.INSERT; kind <= Desk.KILL; kind++) {
            int next = d.wire.count(2);
            for (int x : new int[] {-1, next, next + 1, 40, LEAST, MOST}) {
                DUE.is("kind " + kind + " of piece " + x, d.wire.piece(100 * kind, 101, x, 0), NewsWire.BEYOND);
            }
            DUE.is("kind " + kind + " of piece 0", d.wire.piece(100 * kind, 101, take, 0), next);
        }
        DUE.sentence("Terms", "and came before.");
        int next = d.wire.count(2);
        DUE.is("of itself", d.wire.piece(200, 101, next, 0), NewsWire.BEYOND);
        DUE.is("of the next one", d.wire.piece(200, 101, next + 1, 0), NewsWire.BEYOND);
    }

    private static void kind() {
        DUE.sentence("Promise 3", "NO: KIND");
        Desk d = new Desk();
        d.row(1);
        DUE.is("kind 6", d.wire.piece(600, 101, 0, 0), NewsWire.NO);
        DUE.is("kind 7", d.wire.piece(775, 101, 0, 0), NewsWire.NO);
        DUE.is("kind 10", d.wire.piece(1000, 101, 0, 0), NewsWire.NO);
        DUE.is("the greatest kind", d.wire.piece(MOST / 100 * 100, 101, 0, 0), NewsWire.NO);
        DUE.is("kind 5, the last", d.wire.piece(500, 101, 0, 0), 0);
        DUE.is("is held", d.wire.look(0, 0), 5);
        DUE.is("kind 0, the first", d.wire.piece(0, 101, 0, 0), 1);
        DUE.is("is a take", d.wire.look(1, 0), 0);
    }

    private static void rank() {
        DUE.sentence("Promise 3", "RANK, n (1 .. 12, and THE ROW has so many)");
        Desk d = new Desk();
        d.row(1);
        for (int rank : new int[] {1001, 1012, -1, -99, -100, -101, LEAST, MOST}) {
            DUE.is("rank told as " + rank, d.wire.piece(0, rank, 0, 0), NewsWire.NO);
        }
        DUE.sentence("Terms", "with a RANK (0 .. 9)");
        DUE.is("rank 0", d.wire.piece(0, 1, 0, 0), 0);
        DUE.is("it is 0", d.wire.look(0, 3), 0);
        DUE.is("rank 9", d.wire.piece(0, 901, 0, 0), 1);
        DUE.is("it is 9", d.wire.look(1, 3), 9);
    }

    private static void words() {
        DUE.sentence("Promise 3", "n (1 .. 12, and THE ROW has so many)");
        Desk d = new Desk();
        NewsWire x = d.wire;
        d.row(1, 2, 3, 4, 5, 6, 7, 8, 9, 10, 11, 12, 13, 14, 15, 16);
        for (int n : new int[] {0, 13, 16, 17, 99}) {
            DUE.is(n + " words", x.piece(0, 500 + n, 0, 0), NewsWire.NO);
        }
        DUE.is("one word", x.piece(0, 501, 0, 0), 0);
        DUE.is("twelve words", x.piece(0, 512, 0, 0), 1);
        x.lay(0);
        DUE.is("two of a row of one", x.piece(0, 502, 0, 0), NewsWire.NO);
        DUE.is("one of a row of one", x.piece(0, 501, 0, 0), 2);
        x.lay(1);
        DUE.is("twelve of a row of twelve", x.piece(0, 512, 0, 0), 3);
    }

    private static void wordNumbers() {
        DUE.sentence("Terms", "WORDS (1 .. 12 numbers, 0 .. 9999: THE ROW's first ones)");
        Desk d = new Desk();
        int piece = d.piece(Desk.TAKE, 0, 0, 9999, 0, 1);
        DUE.is("the greatest word", d.wire.word(piece, 0), 9999);
        DUE.is("the least word", d.wire.word(piece, 1), 0);
        d.row(21, 22, 23);
        DUE.is("the first two of sixteen", d.wire.piece(0, 502, 0, 0), 1);
        DUE.is("the first", d.wire.word(1, 0), 21);
        DUE.is("the second", d.wire.word(1, 1), 22);
        DUE.is("no third", d.wire.word(1, 2), NewsWire.BEYOND);
        int longest = d.piece(Desk.TAKE, 0, 0, 1, 2, 3, 4, 5, 6, 7, 8, 9, 10, 11, 12);
        DUE.is("the twelfth", d.wire.word(longest, 11), 12);
    }

    private static void part() {
        DUE.sentence("Promise 3", "PART, tick");
        Desk d = new Desk();
        d.row(1);
        for (int kind : new int[] {Desk.TAKE, Desk.HELD}) {
            for (int part : new int[] {-1, 8, 9, LEAST, MOST}) {
                DUE.is("part " + part + " of kind " + kind, d.wire.piece(100 * kind, 101, part, 0), NewsWire.NO);
            }
        }
        DUE.sentence("Terms", "x is its PART (0 .. 7)");
        for (int kind : new int[] {Desk.TAKE, Desk.HELD}) {
            for (int part : new int[] {0, 7}) {
                int next = d.wire.count(2);
                DUE.is("part " + part + " of kind " + kind, d.wire.piece(100 * kind, 101, part, 0), next);
                DUE.is("it is its part", d.wire.look(next, 5), part);
            }
        }
    }

    private static void heldTick() {
        DUE.sentence("Terms", "not to be used ahead of tick y (0 .. 100000)");
        Desk d = new Desk();
        d.row(1);
        for (int tick : new int[] {-1, 100001, LEAST, MOST}) {
            DUE.is("held to " + tick, d.wire.piece(500, 101, 0, tick), NewsWire.NO);
        }
        DUE.is("held to 0", d.wire.piece(500, 101, 0, 0), 0);
        DUE.is("held to 100000", d.wire.piece(500, 101, 0, 100000), 1);
        DUE.is("its tick", d.wire.look(1, 6), 100000);
    }

    private static Desk oneOfEachKind() {
        Desk d = new Desk();
        d.piece(Desk.TAKE, 0, 0, 1, 2);
        d.piece(Desk.LEAD, 0, 0, 1, 2);
        d.piece(Desk.INSERT, 0, 0, 1, 2);
        d.piece(Desk.CORRECT, 0, 0, 1, 2);
        d.piece(Desk.KILL, 0, 0, 1, 2);
        d.piece(Desk.HELD, 0, 0, 1, 2);
        return d;
    }

    private static void targetKind() {
        DUE.sentence("Terms", "PIECE x of 2, 3 is a TAKE, HELD or LEAD, of 4 any but a KILL");
        for (int kind = Desk.INSERT; kind <= Desk.KILL; kind++) {
            for (int target = Desk.TAKE; target <= Desk.HELD; target++) {
                boolean fits = kind == Desk.KILL ? target != Desk.KILL
                        : target == Desk.TAKE || target == Desk.HELD || target == Desk.LEAD;
                DUE.is("kind " + kind + " of a piece of kind " + target,
                        oneOfEachKind().wire.piece(100 * kind, 101, target, 0), fits ? 6 : NewsWire.KIND);
            }
        }
    }

    private static void targetStory() {
        DUE.sentence("Terms", "it is of the same STORY");
        Desk d = new Desk();
        d.row(1);
        d.wire.piece(70, 101, 0, 0);
        for (int kind = Desk.INSERT; kind <= Desk.KILL; kind++) {
            DUE.is("kind " + kind + " of story 6", d.wire.piece(100 * kind + 60, 101, 0, 0), NewsWire.KIND);
            DUE.is("kind " + kind + " of story 7, of another bureau", d.wire.piece(100 * kind + 75, 101, 0, 0),
                    kind - 1);
        }
    }

    private static void insertPlace() {
        DUE.sentence("Terms", "into PIECE x, ahead of its word y (y: 0 .. how many it has)");
        Desk d = new Desk();
        int take = d.piece(Desk.TAKE, 0, 0, 1, 2, 3);
        for (int y : new int[] {-1, 4, LEAST, MOST}) {
            DUE.is("ahead of word " + y + " of three", d.wire.piece(200, 112, take, y), NewsWire.NO);
        }
        DUE.is("ahead of the first", d.wire.piece(200, 112, take, 0), 1);
        DUE.is("behind the last", d.wire.piece(200, 112, take, 3), 2);
        DUE.is("its place", d.wire.look(2, 6), 3);
        int longest = d.piece(Desk.LEAD, 0, 0, 1, 2, 3, 4, 5, 6, 7, 8, 9, 10, 11, 12);
        DUE.is("behind the twelfth", d.wire.piece(200, 101, longest, 12), longest + 1);
        DUE.is("beyond that", d.wire.piece(200, 101, longest, 13), NewsWire.NO);
    }

    private static void correctPlace() {
        DUE.sentence("Terms", "from word y on (all of them must be there)");
        Desk d = new Desk();
        int take = d.piece(Desk.TAKE, 0, 0, 1, 2, 3);
        DUE.is("ahead of the first", d.wire.piece(300, 101, take, -1), NewsWire.NO);
        DUE.is("the least place", d.wire.piece(300, 101, take, LEAST), NewsWire.NO);
        DUE.is("y + n wraps around", d.wire.piece(300, 102, take, MOST), NewsWire.NO);
        DUE.is("behind the last", d.wire.piece(300, 101, take, 3), NewsWire.NO);
        DUE.is("two from the last on", d.wire.piece(300, 102, take, 2), NewsWire.NO);
        DUE.is("three from the second on", d.wire.piece(300, 103, take, 1), NewsWire.NO);
        DUE.is("four of three", d.wire.piece(300, 104, take, 0), NewsWire.NO);
        DUE.is("twelve of three", d.wire.piece(300, 112, take, 0), NewsWire.NO);
        DUE.is("the last", d.wire.piece(300, 101, take, 2), 1);
        DUE.is("all three", d.wire.piece(300, 103, take, 0), 2);
    }

    private static void piecesFull() {
        DUE.sentence("Terms", "PIECES 0 .. 39 as they come");
        Desk d = new Desk();
        d.row(1);
        for (int i = 0; i <= 39; i++) {
            DUE.is("piece " + i, d.wire.piece(0, 101, 0, 0), i);
        }
        DUE.sentence("Promise 3", "NO: y of 2, 3; FULL.");
        for (int kind = 0; kind <= 5; kind++) {
            DUE.is("the forty-first, of kind " + kind, d.wire.piece(100 * kind, 101, 0, 0), NewsWire.FULL);
        }
        DUE.is("forty stay", d.wire.count(2), 40);
    }

    private static void freeNumbers() {
        DUE.sentence("Terms", "KINDS: 0 TAKE: x is its PART (0 .. 7). 1 LEAD.");
        Desk d = new Desk();
        d.row(1);
        DUE.is("y of a take is not looked at", d.wire.piece(0, 101, 0, MOST), 0);
        DUE.is("x of a lead is not", d.wire.piece(100, 101, LEAST, 0), 1);
        DUE.is("y of a lead is not", d.wire.piece(100, 101, 0, -7), 2);
        DUE.is("y of a kill is not", d.wire.piece(400, 101, 0, 100001), 3);
    }

    private static void lookBeyond() {
        DUE.sentence("Promise 4", "BEYOND, NO.");
        NewsWire none = new NewsWire();
        DUE.is("of none", none.look(0, 0), NewsWire.BEYOND);
        Desk d = new Desk();
        d.piece(Desk.TAKE, 0, 0, 1);
        for (int piece : new int[] {-1, 1, 39, 40, LEAST, MOST}) {
            DUE.is("piece " + piece, d.wire.look(piece, 0), NewsWire.BEYOND);
        }
        for (int what : new int[] {-1, 7, LEAST, MOST}) {
            DUE.is("what " + what, d.wire.look(0, what), NewsWire.NO);
        }
    }

    private static void lookWhat() {
        DUE.sentence("Promise 4", "KIND (what = 0), STORY (1), BUREAU (2), RANK as it was told (3), words (4)");
        Desk d = new Desk();
        d.row(1, 2, 3);
        d.wire.piece(572, 803, 6, 900);
        int[] due = {5, 7, 2, 8, 3, 6, 900};
        for (int what = 0; what <= 6; what++) {
            DUE.is("what " + what, d.wire.look(0, what), due[what]);
        }
        d.rule("rank 0");
        DUE.is("its rank is another now", d.wire.rank(0), 0);
        DUE.is("as it was told", d.wire.look(0, 3), 8);
    }

    private static void lookNones() {
        DUE.sentence("Promise 4", "x (5; NONE of a LEAD), y (6; NONE of 0, 1, 4)");
        Desk d = new Desk();
        d.row(1);
        d.wire.piece(0, 101, 3, 5);
        d.wire.piece(100, 101, 3, 5);
        d.wire.piece(200, 101, 0, 1);
        d.wire.piece(300, 101, 0, 0);
        d.wire.piece(400, 101, 3, 5);
        d.wire.piece(500, 101, 0, 5);
        int[] x = {3, NewsWire.NONE, 0, 0, 3, 0};
        int[] y = {NewsWire.NONE, NewsWire.NONE, 1, 0, NewsWire.NONE, 5};
        for (int kind = 0; kind <= 5; kind++) {
            DUE.is("x of kind " + kind, d.wire.look(kind, 5), x[kind]);
            DUE.is("y of kind " + kind, d.wire.look(kind, 6), y[kind]);
        }
    }

    private static void wordBeyond() {
        DUE.sentence("Promise 5", "BEYOND.");
        DUE.is("of none", new NewsWire().word(0, 0), NewsWire.BEYOND);
        Desk d = new Desk();
        d.piece(Desk.TAKE, 0, 0, 7, 8);
        for (int i : new int[] {-1, 2, 11, 12, LEAST, MOST}) {
            DUE.is("word " + i + " of two", d.wire.word(0, i), NewsWire.BEYOND);
        }
        for (int piece : new int[] {-1, 1, 39, 40, LEAST, MOST}) {
            DUE.is("piece " + piece, d.wire.word(piece, 0), NewsWire.BEYOND);
        }
        DUE.is("the first", d.wire.word(0, 0), 7);
        DUE.is("the last", d.wire.word(0, 1), 8);
    }

    private static void wordAsItCame() {
        DUE.sentence("Promise 5", "Word i of a PIECE, as it came.");
        Desk d = new Desk();
        d.wire.wire(0, 1, 9);
        int take = d.piece(Desk.TAKE, 0, 0, 7, 8);
        d.send(take, 0);
        d.send(d.piece(Desk.CORRECT, take, 1, 9), 0);
        DUE.is("the text has the corrected one", d.wire.read(0, 1, 1), 9);
        DUE.is("the piece has not", d.wire.word(take, 1), 8);
        d.wire.lay(take);
        d.wire.tell(1, 5);
        DUE.is("a row laid from it is told another", d.wire.word(take, 1), 8);
    }
}
