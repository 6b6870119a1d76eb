/** Promises 1 to 5: a new object, wires and pieces. */
public final class PiecesTest {
    private static final Due DUE = new Due();

    public static void main(String[] args) {
        newObject();
        wires();
        pieceRefusals();
        pieceRanges();
        targets();
        places();
        fullPieces();
        looks();
        words();
        DUE.end();
    }

    private static void newObject() {
        NewsWire x = new NewsWire();
        for (int what = 0; what <= 7; what++) {
            DUE.is("1: count(" + what + ")", x.count(what), 0);
        }
        DUE.is("1: row(0)", x.row(0), NewsWire.MISSING);
        DUE.is("1: look(0, 0)", x.look(0, 0), NewsWire.BEYOND);
        DUE.is("1: holds(0, 0, 0)", x.holds(0, 0, 0), NewsWire.BEYOND);
        DUE.is("1: worth(0, 1)", x.worth(0, 1), NewsWire.BEYOND);
        DUE.is("1: wipe()", x.wipe(), 0);
        DUE.is("1: plan()", x.plan(), 0);
        for (int paper = 0; paper < 8; paper++) {
            DUE.is("1: cost", x.cost(paper), 0);
            DUE.is("1: first", x.first(0, paper), NewsWire.NONE);
            DUE.is("1: printed", x.printed(paper, 0), NewsWire.MISSING);
            DUE.is("1: text", x.text(paper, 0, 0), 0);
        }
    }

    private static void wires() {
        NewsWire x = new NewsWire();
        DUE.is("2: bureau -1", x.wire(-1, 1, 1), NewsWire.BEYOND);
        DUE.is("2: bureau 6, papers 0", x.wire(6, 0, 0), NewsWire.BEYOND);
        DUE.is("2: papers 0", x.wire(0, 0, 1), NewsWire.NO);
        DUE.is("2: papers 256", x.wire(0, 256, 1), NewsWire.NO);
        DUE.is("2: papers -1", x.wire(0, -1, 1), NewsWire.NO);
        DUE.is("2: speed 0", x.wire(0, 1, 0), NewsWire.NO);
        DUE.is("2: speed 10", x.wire(0, 1, 10), NewsWire.NO);
        DUE.is("2: none yet", x.count(1), 0);
        DUE.is("2: least", x.wire(0, 1, 1), 0);
        DUE.is("2: greatest", x.wire(5, 255, 9), 1);
        for (int i = 2; i < 6; i++) {
            DUE.is("2: wire " + i, x.wire(0, 1, 1), i);
        }
        DUE.is("2: seventh", x.wire(0, 1, 1), NewsWire.FULL);
        DUE.is("2: seventh, NO ahead of FULL", x.wire(0, 1, 0), NewsWire.NO);
        DUE.is("2: six", x.count(1), 6);
    }

    private static void pieceRefusals() {
        Desk d = new Desk();
        NewsWire x = d.wire;
        DUE.is("3: row missing ahead of all", x.piece(-1, -1, -1, -1), NewsWire.MISSING);
        d.row(7);
        DUE.is("3: told -1", x.piece(-1, 101, 0, 0), NewsWire.BEYOND);
        DUE.is("3: story 8", x.piece(80, 101, 0, 0), NewsWire.BEYOND);
        DUE.is("3: story 9", x.piece(190, 101, 0, 0), NewsWire.BEYOND);
        DUE.is("3: bureau 6", x.piece(6, 101, 0, 0), NewsWire.BEYOND);
        DUE.is("3: bureau 9 ahead of rank", x.piece(9, -1, 0, 0), NewsWire.BEYOND);
        DUE.is("3: insert into none", x.piece(200, 101, 0, 0), NewsWire.BEYOND);
        DUE.is("3: correct of none, ahead of rank", x.piece(300, -1, 0, 0), NewsWire.BEYOND);
        DUE.is("3: kill of -1", x.piece(400, 101, -1, 0), NewsWire.BEYOND);
        DUE.is("3: kind 6", x.piece(600, 101, 0, 0), NewsWire.NO);
        DUE.is("3: kind 6, story 8", x.piece(680, 101, 0, 0), NewsWire.BEYOND);
        DUE.is("3: greatest told", x.piece(Integer.MAX_VALUE, 101, 0, 0), NewsWire.BEYOND);
        DUE.is("3: least told", x.piece(Integer.MIN_VALUE, 101, 0, 0), NewsWire.BEYOND);
        DUE.is("3: rank 10", x.piece(0, 1001, 0, 0), NewsWire.NO);
        DUE.is("3: rank below 0", x.piece(0, -99, 0, 0), NewsWire.NO);
        DUE.is("3: no words", x.piece(0, 100, 0, 0), NewsWire.NO);
        DUE.is("3: 13 words", x.piece(0, 113, 0, 0), NewsWire.NO);
        DUE.is("3: part -1", x.piece(0, 101, -1, 0), NewsWire.NO);
        DUE.is("3: part 8", x.piece(0, 101, 8, 0), NewsWire.NO);
        DUE.is("3: held part -1", x.piece(500, 101, -1, 0), NewsWire.NO);
        DUE.is("3: held part 8", x.piece(500, 101, 8, 0), NewsWire.NO);
        DUE.is("3: held to -1", x.piece(500, 101, 0, -1), NewsWire.NO);
        DUE.is("3: held to 100001", x.piece(500, 101, 0, 100001), NewsWire.NO);
        DUE.is("3: nothing came", x.count(2), 0);
    }

    private static void pieceRanges() {
        Desk d = new Desk();
        NewsWire x = d.wire;
        d.row(1, 2, 3, 4, 5, 6, 7, 8, 9, 10, 11, 12);
        DUE.is("3: a first one", x.piece(0, 12, 7, -5), 0);
        DUE.is("3: greatest of all", x.piece(575, 912, 7, 100000), 1);
        DUE.is("3: held to 0", x.piece(500, 101, 0, 0), 2);
        DUE.is("3: a lead's x and y are free", x.piece(100, 101, -9, -9), 3);
        x.lay(2);
        DUE.is("3: row of one", x.piece(0, 101, 0, 0), 4);
        DUE.is("3: two of a row of one", x.piece(0, 102, 0, 0), NewsWire.NO);
        DUE.is("3: the row stays", x.row(0), 1);
    }

    private static void targets() {
        Desk d = new Desk();
        NewsWire x = d.wire;
        int take = d.piece(Desk.TAKE, 0, 0, 1, 2, 3);
        int lead = d.piece(Desk.LEAD, 0, 0, 4);
        int held = d.piece(Desk.HELD, 1, 50, 5, 6);
        int insert = d.piece(Desk.INSERT, take, 3, 7);
        int correct = d.piece(Desk.CORRECT, held, 0, 8, 9);
        int kill = d.piece(Desk.KILL, lead, -4, 1);
        d.row(1, 2, 3, 4);
        int[] targets = {take, lead, held, insert, correct, kill};
        for (int kind = Desk.INSERT; kind <= Desk.KILL; kind++) {
            for (int i = 0; i < targets.length; i++) {
                boolean fits = kind == Desk.KILL ? i < 5 : i < 3;
                String call = "3: kind " + kind + " of " + i;
                int came = x.count(2);
                DUE.is(call, x.piece(100 * kind, 101, targets[i], 0), fits ? came : NewsWire.KIND);
            }
            DUE.is("3: of another story", x.piece(100 * kind + 10, 101, take, 0), NewsWire.KIND);
            DUE.is("3: of itself", x.piece(100 * kind, 101, x.count(2), 0), NewsWire.BEYOND);
            DUE.is("3: rank ahead of kind", x.piece(100 * kind + 10, 1001, take, 0), NewsWire.NO);
        }
        int came = x.count(2);
        DUE.is("3: of another bureau", x.piece(205, 101, take, 0), came);
        DUE.is("3: kind ahead of y", x.piece(300, 101, insert, 99), NewsWire.KIND);
    }

    private static void places() {
        Desk d = new Desk();
        NewsWire x = d.wire;
        int take = d.piece(Desk.TAKE, 0, 0, 1, 2, 3);
        d.row(1, 2, 3, 4);
        DUE.is("3: insert at -1", x.piece(200, 101, take, -1), NewsWire.NO);
        DUE.is("3: insert at 4", x.piece(200, 101, take, 4), NewsWire.NO);
        DUE.is("3: insert at 3", x.piece(200, 101, take, 3), 1);
        DUE.is("3: insert at 0", x.piece(200, 104, take, 0), 2);
        DUE.is("3: correct at -1", x.piece(300, 101, take, -1), NewsWire.NO);
        DUE.is("3: correct at 3", x.piece(300, 101, take, 3), NewsWire.NO);
        DUE.is("3: correct at 2", x.piece(300, 101, take, 2), 3);
        DUE.is("3: correct two at 2", x.piece(300, 102, take, 2), NewsWire.NO);
        DUE.is("3: correct two at 1", x.piece(300, 102, take, 1), 4);
        DUE.is("3: correct four", x.piece(300, 104, take, 0), NewsWire.NO);
        DUE.is("3: correct at the greatest", x.piece(300, 102, take, Integer.MAX_VALUE), NewsWire.NO);
    }

    private static void fullPieces() {
        Desk d = new Desk();
        for (int i = 0; i < 40; i++) {
            DUE.is("3: piece " + i, d.piece(Desk.TAKE, i % 8, 0, i), i);
        }
        DUE.is("3: piece 40", d.piece(Desk.TAKE, 0, 0, 1), NewsWire.FULL);
        DUE.is("3: NO ahead of FULL", d.piece(Desk.INSERT, 39, 2, 1), NewsWire.NO);
        DUE.is("3: KIND ahead of FULL", d.wire.piece(410, 101, 0, 0), NewsWire.KIND);
        DUE.is("3: the last one is there", d.wire.word(39, 0), 39);
    }

    private static void looks() {
        Desk d = new Desk();
        NewsWire x = d.wire;
        d.row(1, 2, 3);
        int[][] told = {
            {35, 902, 6, 8, 0, 3, 5, 9, 2, 6, -1},
            {130, 3, 6, 8, 1, 3, 0, 0, 3, -1, -1},
            {233, 201, 0, 2, 2, 3, 3, 2, 1, 0, 2},
            {331, 302, 1, 1, 3, 3, 1, 3, 2, 1, 1},
            {434, 401, 3, 9, 4, 3, 4, 4, 1, 3, -1},
            {532, 501, 7, 77, 5, 3, 2, 5, 1, 7, 77},
        };
        for (int i = 0; i < told.length; i++) {
            int[] t = told[i];
            DUE.is("4: piece " + i, x.piece(t[0], t[1], t[2], t[3]), i);
        }
        for (int i = 0; i < told.length; i++) {
            for (int what = 0; what <= 6; what++) {
                DUE.is("4: look(" + i + ", " + what + ")", x.look(i, what), told[i][4 + what]);
            }
            DUE.is("4: what 7", x.look(i, 7), NewsWire.NO);
            DUE.is("4: what -1", x.look(i, -1), NewsWire.NO);
        }
        DUE.is("4: beyond ahead of what", x.look(6, 7), NewsWire.BEYOND);
        DUE.is("4: below", x.look(-1, 0), NewsWire.BEYOND);
        x.wire(5, 1, 1);
        d.rule("rank 1");
        DUE.is("4: the rank as told", x.look(0, 3), 9);
    }

    private static void words() {
        Desk d = new Desk();
        NewsWire x = d.wire;
        int take = d.piece(Desk.TAKE, 0, 0, 11, 0, 9999);
        d.piece(Desk.CORRECT, take, 0, 5);
        d.row(1, 2, 3);
        DUE.is("5: word 0", x.word(take, 0), 11);
        DUE.is("5: word 1", x.word(take, 1), 0);
        DUE.is("5: word 2", x.word(take, 2), 9999);
        DUE.is("5: word 3", x.word(take, 3), NewsWire.BEYOND);
        DUE.is("5: word -1", x.word(take, -1), NewsWire.BEYOND);
        DUE.is("5: piece 2", x.word(2, 0), NewsWire.BEYOND);
        DUE.is("5: piece -1", x.word(-1, 0), NewsWire.BEYOND);
    }
}
