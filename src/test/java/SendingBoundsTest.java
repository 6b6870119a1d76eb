/** Paragraph 3 and promises 12 to 18, sentence by sentence: the least, the greatest, what is beyond, empty and full. */
public final class SendingBoundsTest {
    private static final int LEAST = Integer.MIN_VALUE;
    private static final int MOST = Integer.MAX_VALUE;
    private static final int[] TWELVE = {1, 2, 3, 4, 5, 6, 7, 8, 9, 10, 11, 12};
    private static final Due DUE = new Due();

    public static void main(String[] args) {
        fileBeyond();
        fileNo();
        twelveAtATime();
        onceOnEachWire();
        garbleBeyond();
        garbleTicks();
        garblesFull();
        runBounds();
        runTicks();
        speedTimes();
        greatestRank();
        filedFirst();
        rankInThisTick();
        garbledTick();
        garbledForThisWire();
        costsWhoPays();
        doneAndHave();
        haveAlready();
        wiresEachTick();
        sentBeyond();
        sentMissing();
        sentWhat();
        sinceBounds();
        costBounds();
        firstBounds();
        DUE.allPromises(12, 18);
        DUE.end();
    }

    private static Desk desk(int papers, int speed) {
        Desk d = new Desk();
        d.wire.wire(0, papers, speed);
        return d;
    }

    private static void fileBeyond() {
        DUE.sentence("Promise 12", "BEYOND, NO: another BUREAU");
        Desk d = desk(1, 1);
        d.piece(Desk.TAKE, 0, 0, 1);
        for (int piece : new int[] {-1, 1, 39, 40, LEAST, MOST}) {
            DUE.is("piece " + piece, d.wire.file(piece, 0), NewsWire.BEYOND);
        }
        for (int wire : new int[] {-1, 1, 5, 6, LEAST, MOST}) {
            DUE.is("wire " + wire, d.wire.file(0, wire), NewsWire.BEYOND);
        }
        DUE.is("none is there", d.wire.sent(0, 0, 0), NewsWire.MISSING);
        DUE.is("piece 0 on wire 0", d.wire.file(0, 0), 1);
    }

    private static void fileNo() {
        DUE.sentence("Terms", "A PIECE is FILED on a WIRE of its BUREAU");
        Desk d = new Desk();
        for (int bureau = 0; bureau <= 5; bureau++) {
            d.wire.wire(bureau, 1, 1);
        }
        d.row(1);
        for (int bureau = 0; bureau <= 5; bureau++) {
            int piece = d.wire.piece(bureau, 101, 0, 0);
            for (int wire = 0; wire <= 5; wire++) {
                DUE.is("a piece of bureau " + bureau + " on a wire of " + wire, d.wire.file(piece, wire),
                        bureau == wire ? 1 : NewsWire.NO);
            }
        }
    }

    private static void twelveAtATime() {
        DUE.sentence("Terms", "(12 at a time that are not DONE there;");
        Desk d = desk(1, 1);
        d.wire.wire(0, 1, 1);
        for (int i = 0; i < 15; i++) {
            d.piece(Desk.TAKE, 0, 0, 1);
        }
        for (int i = 0; i < 12; i++) {
            DUE.is("filing " + i, d.wire.file(i, 0), i + 1);
        }
        DUE.sentence("Promise 12", "how many are there and not DONE. BEYOND, NO: another BUREAU, it was FILED there; FULL.");
        DUE.is("a thirteenth", d.wire.file(12, 0), NewsWire.FULL);
        DUE.is("it is not there", d.wire.sent(12, 0, 0), NewsWire.MISSING);
        DUE.is("another wire is not full", d.wire.file(12, 1), 1);
        DUE.is("one is done", d.wire.run(1), 2);
        DUE.is("room again", d.wire.file(12, 0), 12);
        DUE.is("full again", d.wire.file(13, 0), NewsWire.FULL);
        d.wire.run(12);
        DUE.is("all are done", d.wire.file(13, 0), 1);
        DUE.is("and one more", d.wire.file(14, 0), 2);
    }

    private static void onceOnEachWire() {
        DUE.sentence("Terms", "once on each WIRE)");
        Desk d = desk(1, 1);
        d.wire.wire(0, 1, 1);
        int piece = d.piece(Desk.TAKE, 0, 0, 1, 2);
        DUE.is("on the first", d.wire.file(piece, 0), 1);
        DUE.is("again while it waits", d.wire.file(piece, 0), NewsWire.NO);
        d.wire.run(1);
        DUE.is("again while it is sent", d.wire.file(piece, 0), NewsWire.NO);
        d.wire.run(1);
        DUE.is("again when it is done", d.wire.file(piece, 0), NewsWire.NO);
        DUE.is("on the second", d.wire.file(piece, 1), 1);
        DUE.is("again on the second", d.wire.file(piece, 1), NewsWire.NO);
    }

    private static void garbleBeyond() {
        DUE.sentence("Promise 13", "BEYOND (WIRE)");
        DUE.is("no wire", new NewsWire().garble(0, 0), NewsWire.BEYOND);
        Desk d = desk(1, 1);
        for (int wire : new int[] {-1, 1, 5, 6, LEAST, MOST}) {
            DUE.is("wire " + wire, d.wire.garble(wire, 0), NewsWire.BEYOND);
        }
        DUE.is("none is garbled", d.wire.count(7), 0);
    }

    private static void garbleTicks() {
        DUE.sentence("Promise 13", "NO: it is past, beyond 100000, or is already; FULL.");
        Desk d = desk(1, 1);
        d.wire.wire(0, 1, 1);
        d.wire.run(3);
        for (int tick : new int[] {2, 0, -1, 100001, LEAST, MOST}) {
            DUE.is("tick " + tick, d.wire.garble(0, tick), NewsWire.NO);
        }
        DUE.is("the open one", d.wire.garble(0, 3), 1);
        DUE.is("the open one again", d.wire.garble(0, 3), NewsWire.NO);
        DUE.is("the last one", d.wire.garble(0, 100000), 2);
        DUE.is("the last one again", d.wire.garble(0, 100000), NewsWire.NO);
        DUE.is("of another wire", d.wire.garble(1, 100000), 3);
        DUE.is("three are garbled", d.wire.count(7), 3);
    }

    private static void garblesFull() {
        DUE.sentence("Terms", "(40 such at most that are open or later, of all WIRES)");
        Desk d = desk(1, 1);
        for (int i = 1; i < 6; i++) {
            d.wire.wire(i, 1, 1);
        }
        for (int i = 0; i < 39; i++) {
            d.wire.garble(i % 6, i / 6);
        }
        DUE.is("the fortieth", d.wire.garble(3, 6), 40);
        for (int wire = 0; wire < 6; wire++) {
            DUE.is("one more on wire " + wire, d.wire.garble(wire, 7), NewsWire.FULL);
        }
        d.wire.run(1);
        DUE.is("six are past", d.wire.count(7), 34);
        for (int i = 0; i < 6; i++) {
            DUE.is("room again", d.wire.garble(0, 100 + i), 35 + i);
        }
        DUE.is("full again", d.wire.garble(0, 106), NewsWire.FULL);
    }

    private static void runBounds() {
        DUE.sentence("Promise 14", "n TICKS (1 .. 500): how many words were heard. BELOW, NO.");
        Desk d = desk(1, 1);
        d.wire.file(d.piece(Desk.TAKE, 0, 0, 1, 2, 3), 0);
        DUE.is("n -1", d.wire.run(-1), NewsWire.BELOW);
        DUE.is("the least n", d.wire.run(LEAST), NewsWire.BELOW);
        DUE.is("n 0", d.wire.run(0), NewsWire.NO);
        DUE.is("n 501", d.wire.run(501), NewsWire.NO);
        DUE.is("the greatest n", d.wire.run(MOST), NewsWire.NO);
        DUE.is("no tick went by", d.wire.count(0), 0);
        DUE.is("no word was sent", d.wire.count(5), 0);
        DUE.is("n 1", d.wire.run(1), 1);
        DUE.is("one went by", d.wire.count(0), 1);
        DUE.is("n 500", d.wire.run(500), 2);
        DUE.is("501 went by", d.wire.count(0), 501);
        DUE.is("nothing left", d.wire.run(500), 0);
    }

    private static void runTicks() {
        DUE.sentence("Promise 14", "n TICKS (1 .. 500)");
        Desk all = desk(1, 1);
        Desk each = desk(1, 1);
        for (Desk d : new Desk[] {all, each}) {
            for (int i = 0; i < 12; i++) {
                d.wire.file(d.piece(Desk.TAKE, 0, 0, TWELVE), 0);
            }
            d.wire.garble(0, 3);
            d.wire.garble(0, 149);
        }
        DUE.is("150 in one call", all.wire.run(150), 144);
        int heard = 0;
        for (int i = 0; i < 150; i++) {
            heard += each.wire.run(1);
        }
        DUE.is("150 by ones", heard, 144);
        for (int i = 0; i < 12; i++) {
            DUE.is("piece " + i, all.wire.sent(i, 0, 1), each.wire.sent(i, 0, 1));
        }
        DUE.is("the last one", all.wire.since(11, 0), 144);
    }

    private static void speedTimes() {
        DUE.sentence("Terms", "A TICK of a WIRE: SPEED times, one behind the other");
        Desk d = desk(1, 9);
        d.wire.file(d.piece(Desk.TAKE, 0, 0, 1, 2), 0);
        d.wire.file(d.piece(Desk.TAKE, 1, 0, 1), 0);
        d.wire.file(d.ranked(Desk.TAKE, 9, 2, 0, 1, 2, 3), 0);
        d.wire.file(d.piece(Desk.TAKE, 3, 0, 1, 2, 3, 4), 0);
        DUE.is("nine words of four pieces", d.wire.run(1), 9);
        for (int i = 0; i < 3; i++) {
            DUE.is("piece " + i + " is done in the same tick", d.wire.sent(i, 0, 1), 0);
        }
        DUE.is("the last one lacks a word", d.wire.sent(3, 0, 0), 3);
        DUE.is("it alone is left", d.wire.sent(3, 0, 2), 0);
        DUE.is("one word when one is left", d.wire.run(1), 1);
        DUE.is("no more words are sent", d.wire.count(5), 10);
    }

    private static void greatestRank() {
        DUE.sentence("Terms", "that with the greatest RANK in this tick");
        Desk d = desk(1, 1);
        int[] ranks = {0, 8, 9, 1};
        for (int rank : ranks) {
            d.wire.file(d.ranked(Desk.TAKE, rank, 0, 0, 1), 0);
        }
        d.wire.run(4);
        int[] ticks = {3, 1, 0, 2};
        for (int i = 0; i < ranks.length; i++) {
            DUE.is("rank " + ranks[i], d.wire.sent(i, 0, 1), ticks[i]);
        }
    }

    private static void filedFirst() {
        DUE.sentence("Terms", "of these the one FILED first: its next word is sent.");
        Desk d = desk(1, 1);
        int[] order = {2, 0, 1};
        for (int i = 0; i < 3; i++) {
            d.piece(Desk.TAKE, 0, 0, 1, 2);
        }
        for (int piece : order) {
            d.wire.file(piece, 0);
        }
        d.wire.run(6);
        for (int i = 0; i < 3; i++) {
            DUE.is("the " + i + "th that was filed", d.wire.sent(order[i], 0, 1), 2 * i + 1);
        }
    }

    private static void rankInThisTick() {
        DUE.sentence("Terms", "RANK of a PIECE in a tick");
        Desk d = desk(1, 2);
        d.wire.file(d.ranked(Desk.TAKE, 5, 0, 0, 1, 2, 3, 4), 0);
        d.wire.file(d.ranked(Desk.LEAD, 4, 0, 0, 1, 2, 3, 4), 0);
        d.rule("rank 6 if kind=1", 1, 2);
        d.wire.run(1);
        DUE.is("ahead of the rule", d.wire.sent(0, 0, 0), 2);
        d.wire.run(1);
        DUE.is("while it is in force", d.wire.sent(1, 0, 0), 2);
        d.wire.run(1);
        DUE.is("behind it", d.wire.sent(0, 0, 0), 4);
        DUE.is("in one call", d.wire.sent(0, 0, 1), 2);
    }

    private static void garbledTick() {
        DUE.sentence("Terms", "none that is sent in it is heard: the next word stays the same.");
        Desk d = desk(1, 9);
        int piece = d.piece(Desk.TAKE, 0, 0, 1);
        d.wire.file(piece, 0);
        d.wire.garble(0, 0);
        d.wire.garble(0, 2);
        DUE.is("garbled", d.wire.run(1), 0);
        DUE.is("sent nine times, the same word", d.wire.count(5), 9);
        DUE.is("not heard", d.wire.count(6), 0);
        DUE.is("not heard of it", d.wire.sent(piece, 0, 0), 0);
        DUE.is("not done", d.wire.sent(piece, 0, 1), NewsWire.NONE);
        DUE.is("nobody has it", d.wire.since(piece, 0), NewsWire.NONE);
        DUE.is("nobody pays", d.wire.cost(0), 0);
        DUE.is("sent again", d.wire.run(1), 1);
        DUE.is("ten were sent", d.wire.count(5), 10);
        DUE.is("had since then", d.wire.since(piece, 0), 1);
        d.wire.run(1);
        DUE.is("a garbled tick with nothing to send", d.wire.count(5), 10);
    }

    private static void garbledForThisWire() {
        DUE.sentence("Terms", "If the tick is GARBLED for this WIRE");
        Desk d = new Desk();
        int piece = d.piece(Desk.TAKE, 0, 0, TWELVE);
        for (int wire = 0; wire < 6; wire++) {
            d.wire.wire(0, 1, 1);
            d.wire.file(piece, wire);
        }
        for (int wire = 5; wire >= 0; wire--) {
            d.wire.garble(wire, 5 - wire);
            DUE.is("already for wire " + wire, d.wire.garble(wire, 5 - wire), NewsWire.NO);
            d.wire.garble(wire, 8);
        }
        d.wire.garble(4, 6);
        for (int tick = 0; tick < 6; tick++) {
            DUE.is("five of six in " + tick, d.wire.run(1), 5);
            for (int wire = 0; wire < 6; wire++) {
                DUE.is("heard on wire " + wire + " by " + tick, d.wire.sent(piece, wire, 0),
                        5 - wire <= tick ? tick : tick + 1);
            }
        }
        for (int wire = 0; wire < 6; wire++) {
            DUE.is("still garbled for wire " + wire, d.wire.garble(wire, 8), NewsWire.NO);
        }
        DUE.is("wire 4 in 6", d.wire.run(1), 5);
        DUE.is("wire 4 has one less", d.wire.sent(piece, 4, 0), 5);
        DUE.is("wire 5 has not", d.wire.sent(piece, 5, 0), 6);
        DUE.is("none is in 7", d.wire.run(1), 6);
        DUE.is("all are in 8", d.wire.run(1), 0);
        DUE.is("none is in 9", d.wire.run(1), 6);
    }

    private static void costsWhoPays() {
        DUE.sentence("Terms", "Each word that is heard COSTS each PAPER of the WIRE that is not BARRED from the PIECE in "
                + "this tick.");
        Desk d = desk(129, 1);
        d.wire.file(d.piece(Desk.TAKE, 0, 0, 1, 2, 3), 0);
        d.rule("bar 0", 1, 2);
        d.wire.run(1);
        DUE.is("paper 0", d.wire.cost(0), 1);
        DUE.is("paper 7", d.wire.cost(7), 1);
        d.wire.run(1);
        DUE.is("paper 0 is barred", d.wire.cost(0), 1);
        DUE.is("paper 7 is not", d.wire.cost(7), 2);
        d.wire.run(1);
        DUE.is("paper 0 is barred no more", d.wire.cost(0), 2);
        for (int paper = 1; paper < 7; paper++) {
            DUE.is("the wire does not go to paper " + paper, d.wire.cost(paper), 0);
        }
    }

    private static void doneAndHave() {
        DUE.sentence("Terms", "As its last word is heard the PIECE is DONE there: all PAPERS of the WIRE that are not "
                + "BARRED then HAVE it from this tick on");
        Desk d = desk(7, 1);
        int piece = d.piece(Desk.TAKE, 0, 0, 1, 2);
        d.wire.file(piece, 0);
        d.rule("bar 0", 0, 1);
        d.rule("bar 1", 1, 2);
        d.wire.run(1);
        DUE.is("not ahead of the last word", d.wire.since(piece, 2), NewsWire.NONE);
        DUE.is("not done", d.wire.sent(piece, 0, 1), NewsWire.NONE);
        d.wire.run(1);
        DUE.is("done", d.wire.sent(piece, 0, 1), 1);
        DUE.is("barred earlier", d.wire.since(piece, 0), 1);
        DUE.is("barred then", d.wire.since(piece, 1), NewsWire.NONE);
        DUE.is("never barred", d.wire.since(piece, 2), 1);
        DUE.is("in that tick", d.wire.text(2, 1, 0), 2);
        DUE.is("not ahead of it", d.wire.text(2, 0, 0), 0);
        DUE.is("done for a barred paper too", d.wire.run(3), 0);
    }

    private static void haveAlready() {
        DUE.sentence("Terms", "(if they don't already)");
        Desk d = desk(3, 2);
        d.wire.wire(0, 6, 1);
        int piece = d.piece(Desk.TAKE, 0, 0, 1, 2);
        d.wire.file(piece, 1);
        d.wire.file(piece, 0);
        d.wire.run(4);
        DUE.is("by the first wire", d.wire.since(piece, 0), 0);
        DUE.is("by both: the earlier one", d.wire.since(piece, 1), 0);
        DUE.is("by the second wire", d.wire.since(piece, 2), 1);
        Desk e = desk(1, 1);
        e.wire.wire(0, 1, 1);
        int late = e.piece(Desk.TAKE, 0, 0, 1);
        e.rule("bar 0", 0, 1);
        e.send(late, 0);
        DUE.is("barred on the first wire", e.wire.since(late, 0), NewsWire.NONE);
        e.send(late, 1);
        DUE.is("had by the second", e.wire.since(late, 0), 1);
    }

    private static void wiresEachTick() {
        DUE.sentence("Terms", "WIRES by numbers in each tick.");
        Desk d = new Desk();
        int piece = d.piece(Desk.TAKE, 0, 0, TWELVE);
        for (int i = 0; i < 6; i++) {
            d.wire.wire(0, 1 << i, i + 1);
            d.wire.file(piece, i);
        }
        DUE.is("each sends its own", d.wire.run(1), 21);
        d.wire.run(11);
        int[] done = {11, 5, 3, 2, 2, 1};
        for (int i = 0; i < 6; i++) {
            DUE.is("done on wire " + i, d.wire.sent(piece, i, 1), done[i]);
        }
        DUE.is("72 were heard", d.wire.count(6), 72);
    }

    private static void sentBeyond() {
        DUE.sentence("Promise 15", "BEYOND, MISSING: it isn't FILED there; NO.");
        Desk d = desk(1, 1);
        d.piece(Desk.TAKE, 0, 0, 1);
        d.wire.file(0, 0);
        for (int piece : new int[] {-1, 1, 39, 40, LEAST, MOST}) {
            DUE.is("piece " + piece, d.wire.sent(piece, 0, 0), NewsWire.BEYOND);
        }
        for (int wire : new int[] {-1, 1, 5, 6, LEAST, MOST}) {
            DUE.is("wire " + wire, d.wire.sent(0, wire, 0), NewsWire.BEYOND);
        }
        for (int what : new int[] {-1, 3, LEAST, MOST}) {
            DUE.is("what " + what, d.wire.sent(0, 0, what), NewsWire.NO);
        }
    }

    private static void sentMissing() {
        DUE.sentence("Promise 15", "MISSING: it isn't FILED there");
        Desk d = desk(1, 1);
        d.wire.wire(0, 1, 1);
        d.piece(Desk.TAKE, 0, 0, 1);
        for (int what = 0; what <= 2; what++) {
            DUE.is("not filed, what " + what, d.wire.sent(0, 0, what), NewsWire.MISSING);
        }
        d.wire.file(0, 0);
        DUE.is("filed", d.wire.sent(0, 0, 0), 0);
        DUE.is("not on the other", d.wire.sent(0, 1, 0), NewsWire.MISSING);
        d.wire.run(1);
        DUE.is("done, and not missing", d.wire.sent(0, 0, 0), 1);
    }

    private static void sentWhat() {
        DUE.sentence("Promise 15", "How many words of a PIECE were heard on a WIRE (what = 0), the tick in which it was "
                + "DONE there (1; NONE), its place among those FILED there and not DONE, from 0 (2; NONE).");
        Desk d = desk(1, 1);
        for (int i = 0; i < 12; i++) {
            d.wire.file(d.ranked(Desk.TAKE, i == 5 ? 9 : 1, 0, 0, 1, 2), 0);
        }
        DUE.is("no word heard", d.wire.sent(5, 0, 0), 0);
        DUE.is("the twelfth place", d.wire.sent(11, 0, 2), 11);
        d.wire.run(1);
        DUE.is("one heard", d.wire.sent(5, 0, 0), 1);
        DUE.is("not done", d.wire.sent(5, 0, 1), NewsWire.NONE);
        DUE.is("its place stays", d.wire.sent(5, 0, 2), 5);
        d.wire.run(1);
        DUE.is("all heard", d.wire.sent(5, 0, 0), 2);
        DUE.is("done", d.wire.sent(5, 0, 1), 1);
        DUE.is("no place", d.wire.sent(5, 0, 2), NewsWire.NONE);
        DUE.is("ahead of it", d.wire.sent(4, 0, 2), 4);
        DUE.is("behind it", d.wire.sent(6, 0, 2), 5);
        DUE.is("the last", d.wire.sent(11, 0, 2), 10);
        Desk e = desk(1, 1);
        e.wire.file(e.piece(Desk.TAKE, 0, 0, 1), 0);
        e.wire.run(1);
        DUE.is("done in tick 0", e.wire.sent(0, 0, 1), 0);
    }

    private static void sinceBounds() {
        DUE.sentence("Promise 16", "NONE: it hasn't. BEYOND.");
        Desk d = desk(128, 1);
        d.piece(Desk.TAKE, 0, 0, 1);
        DUE.is("not sent", d.wire.since(0, 7), NewsWire.NONE);
        d.send(0, 0);
        DUE.is("since tick 0", d.wire.since(0, 7), 0);
        DUE.is("another paper", d.wire.since(0, 6), NewsWire.NONE);
        for (int piece : new int[] {-1, 1, 39, 40, LEAST, MOST}) {
            DUE.is("piece " + piece, d.wire.since(piece, 7), NewsWire.BEYOND);
        }
        for (int paper : new int[] {-1, 8, LEAST, MOST}) {
            DUE.is("paper " + paper, d.wire.since(0, paper), NewsWire.BEYOND);
        }
    }

    private static void costBounds() {
        DUE.sentence("Promise 17", "What all words COST a PAPER. BEYOND.");
        Desk d = new Desk();
        for (int paper = 0; paper <= 7; paper++) {
            DUE.is("paper " + paper + " at first", d.wire.cost(paper), 0);
        }
        for (int paper : new int[] {-1, 8, LEAST, MOST}) {
            DUE.is("paper " + paper, d.wire.cost(paper), NewsWire.BEYOND);
        }
        for (int i = 0; i < 6; i++) {
            d.wire.wire(0, 255, 9);
        }
        d.rule("cost 9");
        for (int i = 0; i < 12; i++) {
            d.piece(Desk.TAKE, 0, 0, TWELVE);
            for (int wire = 0; wire < 6; wire++) {
                d.wire.file(i, wire);
            }
        }
        d.wire.run(16);
        DUE.is("six times 144 words of 9", d.wire.cost(7), 6 * 144 * 9);
    }

    private static void firstBounds() {
        DUE.sentence("Promise 18", "The first tick since which a PAPER HAS a PIECE of a STORY; NONE. BEYOND.");
        Desk d = desk(128, 1);
        d.row(1);
        d.wire.piece(70, 101, 0, 0);
        d.wire.piece(70, 901, 0, 0);
        d.wire.piece(470, 101, 0, 0);
        DUE.is("none yet", d.wire.first(7, 7), NewsWire.NONE);
        d.wire.run(3);
        d.wire.file(0, 0);
        d.wire.file(1, 0);
        d.wire.run(2);
        DUE.is("the earlier one is of the greater number", d.wire.first(7, 7), 3);
        DUE.is("another story", d.wire.first(6, 7), NewsWire.NONE);
        DUE.is("another paper", d.wire.first(7, 6), NewsWire.NONE);
        d.send(2, 0);
        DUE.is("a kill changes nothing", d.wire.first(7, 7), 3);
        for (int story : new int[] {-1, 8, LEAST, MOST}) {
            DUE.is("story " + story, d.wire.first(story, 0), NewsWire.BEYOND);
        }
        for (int paper : new int[] {-1, 8, LEAST, MOST}) {
            DUE.is("paper " + paper, d.wire.first(0, paper), NewsWire.BEYOND);
        }
        Desk e = desk(1, 1);
        e.send(e.piece(Desk.TAKE, 0, 0, 1), 0);
        DUE.is("in tick 0", e.wire.first(0, 0), 0);
    }
}
