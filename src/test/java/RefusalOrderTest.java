/** Of several refusals the first as each line has them: for each call every two that can meet, promise by promise. */
public final class RefusalOrderTest {
    private static final int BEYOND = NewsWire.BEYOND;
    private static final int MISSING = NewsWire.MISSING;
    private static final int BELOW = NewsWire.BELOW;
    private static final int KIND = NewsWire.KIND;
    private static final int COPY = NewsWire.COPY;
    private static final int NO = NewsWire.NO;
    private static final int FULL = NewsWire.FULL;
    private static final Due DUE = new Due();

    public static void main(String[] args) {
        theRule();
        wires();
        pieceMissing();
        pieceBeyond();
        pieceNo();
        pieceKind();
        pieceFull();
        looksAndWords();
        feeds();
        rules();
        holds();
        files();
        garbles();
        sents();
        texts();
        printed();
        worths();
        tells();
        rowsAndCopies();
        DUE.end();
    }

    private static void theRule() {
        DUE.sentence("Terms", "REFUSALS, of several the first as each line has them");
        NewsWire x = new NewsWire();
        DUE.is("bureau, papers and speed are wrong", x.wire(6, 0, 0), BEYOND);
        DUE.is("one refusal is counted", x.status(BEYOND), 1);
        DUE.is("the other is not", x.status(NO), 0);
    }

    private static void wires() {
        DUE.sentence("Promise 2", "BEYOND: BUREAU; NO: PAPERS, SPEED; FULL.");
        NewsWire x = new NewsWire();
        DUE.is("BEYOND ahead of NO: papers", x.wire(6, 0, 1), BEYOND);
        DUE.is("BEYOND ahead of NO: speed", x.wire(-1, 1, 10), BEYOND);
        for (int i = 0; i < 6; i++) {
            x.wire(0, 1, 1);
        }
        DUE.is("BEYOND ahead of FULL", x.wire(6, 1, 1), BEYOND);
        DUE.is("NO: papers ahead of FULL", x.wire(0, 256, 1), NO);
        DUE.is("NO: speed ahead of FULL", x.wire(0, 1, 0), NO);
        DUE.is("all three", x.wire(6, 0, 0), BEYOND);
        DUE.is("FULL alone", x.wire(0, 1, 1), FULL);
    }

    private static void pieceMissing() {
        DUE.sentence("Promise 3", "MISSING: THE ROW; BEYOND: STORY, BUREAU (told below 0, too)");
        Desk d = new Desk();
        DUE.is("MISSING ahead of story", d.wire.piece(80, 101, 0, 0), MISSING);
        DUE.is("of bureau", d.wire.piece(6, 101, 0, 0), MISSING);
        DUE.is("of told below 0", d.wire.piece(-1, 101, 0, 0), MISSING);
        DUE.is("of piece x", d.wire.piece(200, 101, 0, 0), MISSING);
        DUE.is("of kind", d.wire.piece(600, 101, 0, 0), MISSING);
        DUE.is("of rank", d.wire.piece(0, 1001, 0, 0), MISSING);
        DUE.is("of n", d.wire.piece(0, 100, 0, 0), MISSING);
        DUE.is("of part", d.wire.piece(0, 101, 8, 0), MISSING);
        DUE.is("of tick", d.wire.piece(500, 101, 0, -1), MISSING);
        fill(d);
        d.wire.tear();
        DUE.is("of KIND", d.wire.piece(410, 101, 0, 0), MISSING);
        DUE.is("of y", d.wire.piece(200, 101, 0, 9), MISSING);
        DUE.is("of FULL", d.wire.piece(0, 101, 0, 0), MISSING);
    }

    /** Forty PIECES: a TAKE of two words, a KILL of it, and LEADS; THE ROW has sixteen numbers. */
    private static void fill(Desk d) {
        d.piece(Desk.TAKE, 0, 0, 1, 2);
        d.piece(Desk.KILL, 0, 0, 1);
        for (int i = d.wire.count(2); i < 40; i++) {
            d.wire.piece(100, 101, 0, 0);
        }
    }

    private static void pieceBeyond() {
        DUE.sentence("Promise 3", "BEYOND: STORY, BUREAU (told below 0, too), PIECE x (of 2, 3, 4: none such); NO: KIND, RANK, "
                + "n (1 .. 12, and THE ROW has so many), PART, tick");
        Desk d = new Desk();
        d.piece(Desk.TAKE, 0, 0, 1, 2);
        int[] beyond = {80, 90, 6, 9, 89};
        for (int told : beyond) {
            DUE.is(told + " ahead of kind", d.wire.piece(600 + told, 101, 0, 0), BEYOND);
            DUE.is(told + " ahead of rank", d.wire.piece(told, 1001, 0, 0), BEYOND);
            DUE.is(told + " ahead of n", d.wire.piece(told, 100, 0, 0), BEYOND);
            DUE.is(told + " ahead of part", d.wire.piece(told, 101, 8, 0), BEYOND);
            DUE.is(told + " ahead of tick", d.wire.piece(500 + told, 101, 0, -1), BEYOND);
            DUE.is(told + " ahead of KIND", d.wire.piece(400 + told, 101, 0, 0), BEYOND);
            DUE.is(told + " ahead of y", d.wire.piece(200 + told, 101, 0, 9), BEYOND);
        }
        DUE.is("told below 0 ahead of rank", d.wire.piece(-1, -1, 0, 0), BEYOND);
        for (int kind = Desk.INSERT; kind <= Desk.KILL; kind++) {
            DUE.is("piece x of " + kind + " ahead of rank", d.wire.piece(100 * kind, 1001, 1, 0), BEYOND);
            DUE.is("piece x of " + kind + " ahead of n", d.wire.piece(100 * kind, 113, 1, 0), BEYOND);
            DUE.is("piece x of " + kind + " ahead of y", d.wire.piece(100 * kind, 101, 1, -1), BEYOND);
        }
        fill(d);
        DUE.is("story ahead of FULL", d.wire.piece(80, 101, 0, 0), BEYOND);
        DUE.is("bureau ahead of FULL", d.wire.piece(6, 101, 0, 0), BEYOND);
        DUE.is("told below 0 ahead of FULL", d.wire.piece(-100, 101, 0, 0), BEYOND);
        DUE.is("piece x ahead of FULL", d.wire.piece(200, 101, 40, 0), BEYOND);
        DUE.is("kind 6 has no piece x", d.wire.piece(600, 101, 40, 0), NO);
    }

    private static void pieceNo() {
        DUE.sentence("Promise 3", "NO: KIND, RANK, n (1 .. 12, and THE ROW has so many), PART, tick; KIND: PIECE x");
        Desk d = new Desk();
        fill(d);
        for (int kind = Desk.INSERT; kind <= Desk.KILL; kind++) {
            DUE.is("rank ahead of KIND: a kill", d.wire.piece(100 * kind, 1001, 1, 0), NO);
            DUE.is("rank below 0 ahead of KIND: a kill", d.wire.piece(100 * kind, -1, 1, 0), NO);
            DUE.is("n ahead of KIND: story", d.wire.piece(100 * kind + 10, 113, 0, 0), NO);
            DUE.is("none ahead of KIND: story", d.wire.piece(100 * kind + 10, 100, 0, 0), NO);
        }
        d.wire.lay(0);
        DUE.is("n above the row ahead of KIND", d.wire.piece(410, 103, 0, 0), NO);
        DUE.is("kind ahead of FULL", d.wire.piece(600, 101, 0, 0), NO);
        DUE.is("rank ahead of FULL", d.wire.piece(0, 1001, 0, 0), NO);
        DUE.is("n ahead of FULL", d.wire.piece(0, 100, 0, 0), NO);
        DUE.is("n above the row ahead of FULL", d.wire.piece(0, 103, 0, 0), NO);
        DUE.is("part ahead of FULL", d.wire.piece(0, 101, 8, 0), NO);
        DUE.is("part of a held one ahead of FULL", d.wire.piece(500, 101, -1, 0), NO);
        DUE.is("tick ahead of FULL", d.wire.piece(500, 101, 0, 100001), NO);
    }

    private static void pieceKind() {
        DUE.sentence("Promise 3", "KIND: PIECE x; NO: y of 2, 3; FULL.");
        Desk d = new Desk();
        fill(d);
        for (int kind = Desk.INSERT; kind <= Desk.CORRECT; kind++) {
            DUE.is("KIND: a kill, ahead of y below 0", d.wire.piece(100 * kind, 101, 1, -1), KIND);
            DUE.is("KIND: a kill, ahead of y above", d.wire.piece(100 * kind, 101, 1, 99), KIND);
            DUE.is("KIND: story, ahead of y", d.wire.piece(100 * kind + 70, 101, 0, 99), KIND);
            DUE.is("KIND: a kill, ahead of FULL", d.wire.piece(100 * kind, 101, 1, 0), KIND);
            DUE.is("KIND: story, ahead of FULL", d.wire.piece(100 * kind + 70, 101, 0, 0), KIND);
        }
        DUE.is("KIND: kill of a kill, ahead of FULL", d.wire.piece(400, 101, 1, 0), KIND);
        DUE.is("KIND: kill of another story, ahead of FULL", d.wire.piece(410, 101, 0, 0), KIND);
    }

    private static void pieceFull() {
        DUE.sentence("Promise 3", "NO: y of 2, 3; FULL.");
        Desk d = new Desk();
        fill(d);
        DUE.is("y of an insert ahead of FULL", d.wire.piece(200, 101, 0, 3), NO);
        DUE.is("y below 0 ahead of FULL", d.wire.piece(200, 101, 0, -1), NO);
        DUE.is("y of a correct ahead of FULL", d.wire.piece(300, 102, 0, 1), NO);
        DUE.is("y of a kill is none", d.wire.piece(400, 101, 0, 99), FULL);
        DUE.is("FULL alone", d.wire.piece(200, 101, 0, 2), FULL);
    }

    private static void looksAndWords() {
        DUE.sentence("Promise 4", "BEYOND, NO.");
        Desk d = new Desk();
        DUE.is("of none", d.wire.look(0, 7), BEYOND);
        d.piece(Desk.TAKE, 0, 0, 1);
        DUE.is("BEYOND ahead of NO", d.wire.look(1, -1), BEYOND);
        DUE.is("NO alone", d.wire.look(0, -1), NO);
        DUE.sentence("Promise 5", "BEYOND.");
        DUE.is("both", d.wire.word(1, 1), BEYOND);
        DUE.is("one refusal is counted for both", d.wire.status(BEYOND), 3);
    }

    private static void feeds() {
        DUE.sentence("Promise 6", "BELOW, NO: n; FULL.");
        NewsWire x = new NewsWire();
        for (int i = 0; i < 20; i++) {
            x.feed(0, 4);
        }
        DUE.is("BELOW when it is full", x.feed(0, -1), BELOW);
        DUE.is("NO ahead of FULL", x.feed(0, 5), NO);
        DUE.is("NO ahead of FULL", x.feed(0, Integer.MAX_VALUE), NO);
        DUE.is("FULL alone", x.feed(0, 4), FULL);
    }

    private static void rules() {
        DUE.sentence("Promise 8", "NO: ticks (from is not ahead of to, or one beyond); FULL; -10 less the FAULT (THE TAPE "
                + "stays); NO: its NUMBER.");
        Desk d = new Desk();
        DUE.is("ticks ahead of a fault", d.rule("x", 5, 5), NO);
        DUE.is("a tick beyond ahead of a fault", d.rule("x", 0, 100001), NO);
        DUE.is("a fault ahead of the number", d.rule("bar 8 "), -16);
        DUE.is("the number alone", d.rule("bar 8"), NO);
        for (int i = 0; i < 10; i++) {
            d.rule("rank 1");
        }
        DUE.is("ticks ahead of FULL", d.rule("rank 1", 5, 5), NO);
        DUE.is("a tick beyond ahead of FULL", d.rule("rank 1", -1, 5), NO);
        int nos = d.wire.status(NO);
        int fulls = d.wire.status(FULL);
        DUE.is("FULL ahead of a fault", d.rule("x"), FULL);
        DUE.is("FULL ahead of a fault at the end", d.rule(""), FULL);
        DUE.is("FULL ahead of the number", d.rule("bar 8"), FULL);
        DUE.is("counted as FULL", d.wire.status(FULL), fulls + 3);
        DUE.is("not as NO", d.wire.status(NO), nos);
    }

    private static void holds() {
        DUE.sentence("Promise 9", "1, 0. BEYOND.");
        Desk d = new Desk();
        DUE.is("all three", d.wire.holds(10, 40, 8), BEYOND);
        DUE.is("counted once", d.wire.status(BEYOND), 1);
    }

    private static void files() {
        DUE.sentence("Promise 12", "BEYOND, NO: another BUREAU, it was FILED there; FULL.");
        Desk d = new Desk();
        d.wire.wire(0, 1, 1);
        d.row(1, 2);
        d.wire.piece(1, 501, 0, 0);
        DUE.is("BEYOND: wire, ahead of any bureau", d.wire.file(0, 1), BEYOND);
        DUE.is("BEYOND: piece", d.wire.file(1, 0), BEYOND);
        for (int i = 1; i <= 13; i++) {
            d.wire.piece(0, 502, 0, 0);
            d.wire.file(i, 0);
        }
        DUE.is("BEYOND: piece, ahead of FULL", d.wire.file(14, 0), BEYOND);
        DUE.is("NO: another bureau, ahead of FULL", d.wire.file(0, 0), NO);
        DUE.is("NO: it was filed, ahead of FULL", d.wire.file(12, 0), NO);
        DUE.is("FULL alone", d.wire.file(13, 0), FULL);
        d.wire.run(2);
        d.wire.file(13, 0);
        DUE.is("NO: it is done, ahead of FULL", d.wire.file(1, 0), NO);
    }

    private static void garbles() {
        DUE.sentence("Promise 13", "BEYOND (WIRE), NO: it is past, beyond 100000, or is already; FULL.");
        Desk d = new Desk();
        d.wire.wire(0, 1, 1);
        d.wire.run(1);
        DUE.is("BEYOND ahead of past", d.wire.garble(1, 0), BEYOND);
        DUE.is("BEYOND ahead of beyond 100000", d.wire.garble(-1, 100001), BEYOND);
        for (int i = 1; i <= 40; i++) {
            d.wire.garble(0, i);
        }
        DUE.is("BEYOND ahead of FULL", d.wire.garble(1, 41), BEYOND);
        DUE.is("past ahead of FULL", d.wire.garble(0, 0), NO);
        DUE.is("beyond 100000 ahead of FULL", d.wire.garble(0, 100001), NO);
        DUE.is("already ahead of FULL", d.wire.garble(0, 40), NO);
        DUE.is("FULL alone", d.wire.garble(0, 41), FULL);
    }

    private static void sents() {
        DUE.sentence("Promise 15", "BEYOND, MISSING: it isn't FILED there; NO.");
        Desk d = new Desk();
        d.wire.wire(0, 1, 1);
        d.piece(Desk.TAKE, 0, 0, 1);
        DUE.is("BEYOND: piece, ahead of NO", d.wire.sent(1, 0, 3), BEYOND);
        DUE.is("BEYOND: wire, ahead of MISSING and NO", d.wire.sent(0, 1, 3), BEYOND);
        DUE.is("MISSING ahead of NO", d.wire.sent(0, 0, 3), MISSING);
        DUE.is("MISSING ahead of NO, below", d.wire.sent(0, 0, -1), MISSING);
        d.wire.file(0, 0);
        DUE.is("NO alone", d.wire.sent(0, 0, 3), NO);
    }

    private static void texts() {
        DUE.sentence("Promise 19", "BEYOND (STORY, PAPER, tick), NO.");
        NewsWire x = new NewsWire();
        DUE.is("BEYOND: story, ahead of NO", x.text(80, 0, 4), BEYOND);
        DUE.is("BEYOND: paper, ahead of NO", x.text(8, 0, 4), BEYOND);
        DUE.is("BEYOND: told below 0, ahead of NO", x.text(-1, 0, -1), BEYOND);
        DUE.is("BEYOND: tick, ahead of NO", x.text(0, 1, 4), BEYOND);
        DUE.is("BEYOND: tick below 0, ahead of NO", x.text(0, -1, -1), BEYOND);
        DUE.is("NO alone", x.text(0, 0, 4), NO);
        DUE.sentence("Promise 20", "BEYOND (likewise, i).");
        DUE.is("all three", x.read(80, 1, -1), BEYOND);
        DUE.is("counted once", x.status(BEYOND), 6);
        DUE.sentence("Promise 21", "BEYOND likewise.");
        DUE.is("all three", x.from(80, 1, -1), BEYOND);
        DUE.is("counted once", x.status(BEYOND), 7);
    }

    private static void printed() {
        DUE.sentence("Promise 23", "BEYOND, MISSING: there was none; NO.");
        NewsWire x = new NewsWire();
        DUE.is("BEYOND ahead of MISSING", x.printed(8, 0), BEYOND);
        DUE.is("BEYOND ahead of NO", x.printed(-1, 4), BEYOND);
        DUE.is("MISSING ahead of NO", x.printed(0, 4), MISSING);
        DUE.is("MISSING ahead of NO, below", x.printed(0, -1), MISSING);
        x.edition(0);
        DUE.is("NO alone", x.printed(0, 4), NO);
    }

    private static void worths() {
        DUE.sentence("Promise 24", "BEYOND, BELOW, NO.");
        NewsWire x = new NewsWire();
        DUE.is("BEYOND ahead of BELOW", x.worth(0, -1), BEYOND);
        DUE.is("BEYOND ahead of NO", x.worth(0, 1001), BEYOND);
        x.wire(0, 1, 1);
        DUE.is("BELOW alone", x.worth(0, -1), BELOW);
        DUE.is("NO alone", x.worth(0, 1001), NO);
        DUE.sentence("Promise 14", "BELOW, NO.");
        DUE.is("BELOW", x.run(-1), BELOW);
        DUE.is("NO", x.run(0), NO);
    }

    private static void tells() {
        DUE.sentence("Promise 27", "BEYOND: i; NO: v (0 .. 9999).");
        NewsWire x = new NewsWire();
        DUE.is("BEYOND ahead of NO, missing", x.tell(16, -1), BEYOND);
        DUE.is("NO alone, missing", x.tell(15, -1), NO);
        x.tell(0, 1);
        DUE.is("BEYOND ahead of NO", x.tell(-1, 10000), BEYOND);
        DUE.is("NO alone", x.tell(0, 10000), NO);
    }

    private static void rowsAndCopies() {
        DUE.sentence("Promise 30", "MISSING, BEYOND.");
        NewsWire x = new NewsWire();
        DUE.is("MISSING ahead of BEYOND", x.row(16), MISSING);
        DUE.is("MISSING ahead of BEYOND, below", x.row(-1), MISSING);
        DUE.sentence("Promise 31", "MISSING, BELOW: n; COPY:");
        DUE.is("MISSING ahead of BELOW", x.copy(0, 0, -1), MISSING);
        DUE.is("MISSING ahead of COPY", x.copy(-1, 17, 1), MISSING);
        DUE.is("all three", x.copy(-1, 17, -1), MISSING);
        x.tell(0, 1);
        DUE.is("BELOW ahead of COPY: i", x.copy(-1, 0, -1), BELOW);
        DUE.is("BELOW ahead of COPY: j", x.copy(0, 17, -1), BELOW);
        DUE.is("COPY alone", x.copy(-1, 0, 0), COPY);
    }
}
