/** Paragraph 5 and promises 27 to 32, sentence by sentence: the least, the greatest, what is beyond, empty and full. */
public final class RowBoundsTest {
    private static final int LEAST = Integer.MIN_VALUE;
    private static final int MOST = Integer.MAX_VALUE;
    private static final Due DUE = new Due();

    public static void main(String[] args) {
        tellPlaces();
        tellPlacesOfShortRow();
        tellNumbers();
        tellMissing();
        lays();
        layBeyond();
        tears();
        rows();
        copyMissing();
        copyBelow();
        copyBounds();
        copyWrapsAround();
        copyShortRow();
        copyAsTheyWere();
        statusBounds();
        statusCounts();
        statusOfEach();
        DUE.allPromises(27, 32);
        DUE.end();
    }

    /** A row of two numbers. */
    private static Desk two() {
        Desk d = new Desk();
        d.piece(Desk.TAKE, 0, 0, 7, 8);
        d.wire.lay(0);
        return d;
    }

    private static void rowIs(NewsWire x, int... numbers) {
        for (int i = 0; i < numbers.length; i++) {
            DUE.is("number " + i, x.row(i), numbers[i]);
        }
        DUE.is("and no more", x.row(numbers.length), NewsWire.BEYOND);
    }

    private static void tellPlaces() {
        DUE.sentence("Promise 27", "BEYOND: i");
        for (int i : new int[] {-1, 16, 17, LEAST, MOST}) {
            NewsWire x = new NewsWire();
            DUE.is("place " + i + " of none", x.tell(i, 1), NewsWire.BEYOND);
            DUE.is("it is missing still", x.tear(), 0);
            x.tell(0, 1);
            DUE.is("place " + i + " of sixteen", x.tell(i, 1), NewsWire.BEYOND);
        }
        for (int i : new int[] {0, 15}) {
            NewsWire x = new NewsWire();
            DUE.is("place " + i + " of none", x.tell(i, 1), 1);
            DUE.is("place " + i + " of sixteen", x.tell(i, 2), 1);
            DUE.is("is told", x.row(i), 2);
        }
    }

    private static void tellPlacesOfShortRow() {
        DUE.sentence("Promise 27", "A number of THE ROW is told");
        NewsWire x = two().wire;
        DUE.is("place 2 of two", x.tell(2, 1), NewsWire.BEYOND);
        DUE.is("place 15 of two", x.tell(15, 1), NewsWire.BEYOND);
        DUE.is("place 1 of two", x.tell(1, 9), 1);
        rowIs(x, 7, 9);
    }

    private static void tellNumbers() {
        DUE.sentence("Promise 27", "NO: v (0 .. 9999).");
        for (int v : new int[] {-1, 10000, LEAST, MOST}) {
            NewsWire x = new NewsWire();
            DUE.is("v " + v, x.tell(0, v), NewsWire.NO);
            DUE.is("no row comes by it", x.row(0), NewsWire.MISSING);
            x.tell(0, 5);
            DUE.is("v " + v, x.tell(0, v), NewsWire.NO);
            DUE.is("the number stays", x.row(0), 5);
        }
        NewsWire x = new NewsWire();
        DUE.is("v 0", x.tell(0, 0), 1);
        DUE.is("v 9999", x.tell(1, 9999), 1);
        DUE.is("0", x.row(0), 0);
        DUE.is("9999", x.row(1), 9999);
    }

    private static void tellMissing() {
        DUE.sentence("Promise 27", "(it is there then, 16 numbers, others 0, if it was missing): 1.");
        NewsWire x = new NewsWire();
        DUE.is("the last", x.tell(15, 4), 1);
        rowIs(x, 0, 0, 0, 0, 0, 0, 0, 0, 0, 0, 0, 0, 0, 0, 0, 4);
        DUE.is("another when it is there", x.tell(0, 3), 1);
        rowIs(x, 3, 0, 0, 0, 0, 0, 0, 0, 0, 0, 0, 0, 0, 0, 0, 4);
        x.tear();
        DUE.is("torn and told again", x.tell(1, 2), 1);
        rowIs(x, 0, 2, 0, 0, 0, 0, 0, 0, 0, 0, 0, 0, 0, 0, 0, 0);
    }

    private static void lays() {
        DUE.sentence("Promise 28", "THE ROW becomes the words of a PIECE: how many.");
        Desk d = new Desk();
        d.piece(Desk.TAKE, 0, 0, 5);
        d.piece(Desk.KILL, 0, 0, 1, 2, 3, 4, 5, 6, 7, 8, 9, 10, 11, 12);
        d.wire.tear();
        DUE.is("twelve, when it was missing", d.wire.lay(1), 12);
        rowIs(d.wire, 1, 2, 3, 4, 5, 6, 7, 8, 9, 10, 11, 12);
        DUE.is("one, when it was of twelve", d.wire.lay(0), 1);
        rowIs(d.wire, 5);
        d.wire.tear();
        d.wire.tell(3, 6);
        rowIs(d.wire, 0, 0, 0, 6, 0, 0, 0, 0, 0, 0, 0, 0, 0, 0, 0, 0);
    }

    private static void layBeyond() {
        DUE.sentence("Promise 28", "BEYOND.");
        DUE.is("of none", new NewsWire().lay(0), NewsWire.BEYOND);
        Desk d = two();
        for (int piece : new int[] {-1, 1, 39, 40, LEAST, MOST}) {
            DUE.is("piece " + piece, d.wire.lay(piece), NewsWire.BEYOND);
        }
        rowIs(d.wire, 7, 8);
    }

    private static void tears() {
        DUE.sentence("Promise 29", "THE ROW is missing: 1 if it was there, else 0 (at first it is missing).");
        NewsWire x = new NewsWire();
        DUE.is("at first", x.tear(), 0);
        DUE.is("at first again", x.tear(), 0);
        x.tell(0, 0);
        DUE.is("it was there", x.tear(), 1);
        DUE.is("it is missing", x.row(0), NewsWire.MISSING);
        DUE.is("and is so still", x.tear(), 0);
        x = two().wire;
        DUE.is("a laid one", x.tear(), 1);
        DUE.is("a laid one is missing", x.tear(), 0);
    }

    private static void rows() {
        DUE.sentence("Promise 30", "Number i of THE ROW. MISSING, BEYOND.");
        NewsWire x = new NewsWire();
        for (int i : new int[] {-1, 0, 15, 16, LEAST, MOST}) {
            DUE.is("missing, place " + i, x.row(i), NewsWire.MISSING);
        }
        x.tell(15, 6);
        for (int i : new int[] {-1, 16, LEAST, MOST}) {
            DUE.is("place " + i + " of sixteen", x.row(i), NewsWire.BEYOND);
        }
        DUE.is("the first", x.row(0), 0);
        DUE.is("the last", x.row(15), 6);
        rowIs(two().wire, 7, 8);
    }

    private static void copyMissing() {
        DUE.sentence("Promise 31", "MISSING, BELOW: n; COPY:");
        NewsWire x = new NewsWire();
        DUE.is("none", x.copy(0, 0, 0), NewsWire.MISSING);
        DUE.is("one", x.copy(0, 0, 1), NewsWire.MISSING);
        DUE.is("it is missing still", x.tear(), 0);
        x.tell(0, 1);
        x.tear();
        DUE.is("torn", x.copy(0, 0, 0), NewsWire.MISSING);
    }

    private static void copyBelow() {
        DUE.sentence("Promise 31", "BELOW: n");
        NewsWire x = two().wire;
        DUE.is("n -1", x.copy(0, 0, -1), NewsWire.BELOW);
        DUE.is("the least n", x.copy(0, 0, LEAST), NewsWire.BELOW);
        DUE.is("n 0", x.copy(0, 0, 0), 0);
        rowIs(x, 7, 8);
    }

    private static void copyBounds() {
        DUE.sentence("Promise 31", "COPY: i or j below 0, i + n or j + n above how many there are.");
        NewsWire x = new NewsWire();
        x.tell(0, 1);
        DUE.is("i -1", x.copy(-1, 0, 1), NewsWire.COPY);
        DUE.is("j -1", x.copy(0, -1, 1), NewsWire.COPY);
        DUE.is("i -1, n 0", x.copy(-1, 0, 0), NewsWire.COPY);
        DUE.is("j -1, n 0", x.copy(0, -1, 0), NewsWire.COPY);
        DUE.is("i + n 17", x.copy(13, 0, 4), NewsWire.COPY);
        DUE.is("j + n 17", x.copy(0, 13, 4), NewsWire.COPY);
        DUE.is("i 17, n 0", x.copy(17, 0, 0), NewsWire.COPY);
        DUE.is("j 17, n 0", x.copy(0, 17, 0), NewsWire.COPY);
        DUE.is("n 17", x.copy(0, 0, 17), NewsWire.COPY);
        DUE.is("i 16, n 0", x.copy(16, 0, 0), 0);
        DUE.is("j 16, n 0", x.copy(0, 16, 0), 0);
        DUE.is("i + n 16", x.copy(12, 0, 4), 4);
        DUE.is("j + n 16", x.copy(0, 12, 4), 4);
        DUE.is("n 16", x.copy(0, 0, 16), 16);
    }

    private static void copyWrapsAround() {
        DUE.sentence("Promise 31", "i + n or j + n above how many there are");
        NewsWire x = new NewsWire();
        x.tell(0, 1);
        DUE.is("i + n wraps around", x.copy(1, 0, MOST), NewsWire.COPY);
        DUE.is("j + n wraps around", x.copy(0, 1, MOST), NewsWire.COPY);
        DUE.is("both do", x.copy(2, 3, MOST - 1), NewsWire.COPY);
        DUE.is("the greatest i", x.copy(MOST, 0, 1), NewsWire.COPY);
        DUE.is("the greatest j", x.copy(0, MOST, 1), NewsWire.COPY);
        DUE.is("the greatest of all", x.copy(MOST, MOST, MOST), NewsWire.COPY);
        DUE.is("the least i", x.copy(LEAST, 0, MOST), NewsWire.COPY);
        DUE.is("the least j", x.copy(0, LEAST, MOST), NewsWire.COPY);
        rowIs(x, 1, 0, 0, 0, 0, 0, 0, 0, 0, 0, 0, 0, 0, 0, 0, 0);
    }

    private static void copyShortRow() {
        DUE.sentence("Promise 31", "above how many there are.");
        NewsWire x = two().wire;
        DUE.is("i + n 3 of two", x.copy(1, 0, 2), NewsWire.COPY);
        DUE.is("j + n 3 of two", x.copy(0, 1, 2), NewsWire.COPY);
        DUE.is("n 3 of two", x.copy(0, 0, 3), NewsWire.COPY);
        DUE.is("i 3 of two, none", x.copy(3, 0, 0), NewsWire.COPY);
        rowIs(x, 7, 8);
        DUE.is("two of two", x.copy(0, 0, 2), 2);
        DUE.is("the last to the first", x.copy(1, 0, 1), 1);
        rowIs(x, 8, 8);
    }

    private static void copyAsTheyWere() {
        DUE.sentence("Promise 31", "n numbers of THE ROW, from place i on, come to its place j on (as they were): n.");
        int[][] copies = {{0, 1, 4}, {1, 0, 4}, {0, 4, 1}, {0, 3, 2}, {2, 2, 3}, {0, 0, 5}, {4, 0, 1}, {3, 0, 0}};
        int[][] due = {{1, 1, 2, 3, 4}, {2, 3, 4, 5, 5}, {1, 2, 3, 4, 1}, {1, 2, 3, 1, 2}, {1, 2, 3, 4, 5},
            {1, 2, 3, 4, 5}, {5, 2, 3, 4, 5}, {1, 2, 3, 4, 5}};
        for (int i = 0; i < copies.length; i++) {
            Desk d = new Desk();
            d.piece(Desk.TAKE, 0, 0, 1, 2, 3, 4, 5);
            d.wire.lay(0);
            int[] c = copies[i];
            DUE.is("copy(" + c[0] + ", " + c[1] + ", " + c[2] + ")", d.wire.copy(c[0], c[1], c[2]), c[2]);
            rowIs(d.wire, due[i]);
        }
    }

    private static void statusBounds() {
        DUE.sentence("Promise 32", "NO: another number.");
        NewsWire x = new NewsWire();
        for (int by : new int[] {-1, -9, 0, 1, 2, 8, -10, LEAST, LEAST + 1, MOST, MOST - 1}) {
            DUE.is("by " + by, x.status(by), NewsWire.NO);
        }
        DUE.is("these were refused, too", x.status(NewsWire.NO), 11);
        for (int by = -8; by <= -2; by++) {
            DUE.is("by " + by, x.status(by), by == NewsWire.NO ? 11 : 0);
        }
    }

    private static void statusCounts() {
        DUE.sentence("Promise 32", "How many calls were refused by an answer -2 .. -8.");
        Desk d = new Desk();
        d.wire.wire(0, 1, 1);
        d.piece(Desk.TAKE, 0, 0, 1);
        DUE.is("-10 and less is none of these", d.rule("x"), -10);
        d.rule("rank 1234567");
        DUE.is("NONE is none of these", d.wire.since(0, 0), NewsWire.NONE);
        d.wire.file(0, 0);
        DUE.is("nor the NONE of sent", d.wire.sent(0, 0, 1), NewsWire.NONE);
        for (int by = -8; by <= -2; by++) {
            DUE.is("by " + by, d.wire.status(by), 0);
        }
        for (int i = 1; i <= 300; i++) {
            d.wire.row(99);
        }
        DUE.is("many of one", d.wire.status(NewsWire.BEYOND), 300);
    }

    private static void statusOfEach() {
        DUE.sentence("Promise 32", "by an answer -2 .. -8");
        Desk d = new Desk();
        NewsWire x = d.wire;
        DUE.is("missing", x.row(0), NewsWire.MISSING);
        DUE.is("beyond", x.wire(6, 1, 1), NewsWire.BEYOND);
        DUE.is("below", x.run(-1), NewsWire.BELOW);
        d.row(1);
        x.piece(0, 101, 0, 0);
        DUE.is("of another kind", x.piece(410, 101, 0, 0), NewsWire.KIND);
        DUE.is("no copy", x.copy(0, 0, 17), NewsWire.COPY);
        DUE.is("no", x.run(0), NewsWire.NO);
        for (int i = 0; i < 20; i++) {
            x.feed(0, 4);
        }
        DUE.is("full", x.feed(0, 1), NewsWire.FULL);
        for (int by = -8; by <= -2; by++) {
            DUE.is("by " + by, x.status(by), 1);
        }
    }
}
