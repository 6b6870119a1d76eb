/** Promises 27 to 32: the row, and how many calls were refused. */
public final class RowsTest {
    private static final Due DUE = new Due();

    public static void main(String[] args) {
        tells();
        lays();
        copies();
        statuses();
        DUE.end();
    }

    private static void tells() {
        NewsWire x = new NewsWire();
        DUE.is("29: missing at first", x.tear(), 0);
        DUE.is("27: i -1, ahead of v", x.tell(-1, -1), NewsWire.BEYOND);
        DUE.is("27: i 16", x.tell(16, 0), NewsWire.BEYOND);
        DUE.is("27: v -1", x.tell(0, -1), NewsWire.NO);
        DUE.is("27: v 10000", x.tell(0, 10000), NewsWire.NO);
        DUE.is("27: a refused one lays no row", x.row(0), NewsWire.MISSING);
        DUE.is("30: missing ahead of i", x.row(-1), NewsWire.MISSING);
        DUE.is("27: v 9999", x.tell(15, 9999), 1);
        for (int i = 0; i < 15; i++) {
            DUE.is("27: others are 0", x.row(i), 0);
        }
        DUE.is("30: told", x.row(15), 9999);
        DUE.is("30: i 16", x.row(16), NewsWire.BEYOND);
        DUE.is("30: i -1", x.row(-1), NewsWire.BEYOND);
        DUE.is("27: another", x.tell(3, 4), 1);
        DUE.is("27: the first stays", x.row(15), 9999);
        DUE.is("27: v 0", x.tell(15, 0), 1);
        DUE.is("30: 0", x.row(15), 0);
        DUE.is("29: there", x.tear(), 1);
        DUE.is("29: no more", x.tear(), 0);
        x.tell(0, 1);
        DUE.is("27: zeros again", x.row(3), 0);
    }

    private static void lays() {
        Desk d = new Desk();
        NewsWire x = d.wire;
        DUE.is("28: none", x.lay(0), NewsWire.BEYOND);
        int three = d.piece(Desk.TAKE, 0, 0, 7, 8, 9);
        int one = d.piece(Desk.LEAD, 0, 0, 5);
        x.tear();
        DUE.is("28: three", x.lay(three), 3);
        DUE.is("28: its last", x.row(2), 9);
        DUE.is("28: no more than three", x.row(3), NewsWire.BEYOND);
        DUE.is("27: inside", x.tell(2, 1), 1);
        DUE.is("27: outside", x.tell(3, 1), NewsWire.BEYOND);
        DUE.is("28: the piece stays", x.word(three, 2), 9);
        DUE.is("28: one", x.lay(one), 1);
        DUE.is("28: its first", x.row(0), 5);
        DUE.is("28: no more than one", x.row(1), NewsWire.BEYOND);
        DUE.is("28: piece 2", x.lay(2), NewsWire.BEYOND);
        DUE.is("28: piece -1", x.lay(-1), NewsWire.BEYOND);
        x.tear();
        x.tell(1, 3);
        DUE.is("27: zeros, not what lay there", x.row(0), 0);
    }

    private static void copies() {
        Desk d = new Desk();
        NewsWire x = d.wire;
        DUE.is("31: missing ahead of n", x.copy(0, 0, -1), NewsWire.MISSING);
        d.row(1, 2, 3, 4, 5);
        DUE.is("31: below ahead of i", x.copy(-1, 0, -1), NewsWire.BELOW);
        DUE.is("31: i -1", x.copy(-1, 0, 1), NewsWire.COPY);
        DUE.is("31: j -1", x.copy(0, -1, 1), NewsWire.COPY);
        DUE.is("31: i + n 17", x.copy(14, 0, 3), NewsWire.COPY);
        DUE.is("31: j + n 17", x.copy(0, 14, 3), NewsWire.COPY);
        DUE.is("31: greatest n", x.copy(1, 1, Integer.MAX_VALUE), NewsWire.COPY);
        DUE.is("31: greatest i", x.copy(Integer.MAX_VALUE, 0, 1), NewsWire.COPY);
        DUE.is("31: greatest j", x.copy(0, Integer.MAX_VALUE, Integer.MAX_VALUE), NewsWire.COPY);
        DUE.is("31: none at the end", x.copy(16, 16, 0), 0);
        DUE.is("31: none beyond the end", x.copy(17, 16, 0), NewsWire.COPY);
        DUE.is("31: all", x.copy(0, 0, 16), 16);
        DUE.is("31: up", x.copy(0, 1, 4), 4);
        row(x, 1, 1, 2, 3, 4, 0);
        DUE.is("31: down", x.copy(2, 0, 3), 3);
        row(x, 2, 3, 4, 3, 4, 0);
        d.piece(Desk.TAKE, 0, 0, 7, 8);
        x.lay(0);
        DUE.is("31: above a row of two", x.copy(0, 1, 2), NewsWire.COPY);
        DUE.is("31: in a row of two", x.copy(0, 1, 1), 1);
        row(x, 7, 7);
    }

    private static void row(NewsWire x, int... numbers) {
        for (int i = 0; i < numbers.length; i++) {
            DUE.is("31: number " + i, x.row(i), numbers[i]);
        }
    }

    private static void statuses() {
        NewsWire x = new NewsWire();
        for (int by = -8; by <= -2; by++) {
            DUE.is("32: none", x.status(by), 0);
        }
        x.row(0);
        x.row(0);
        x.lay(0);
        x.feed(0, -1);
        x.tell(0, 1);
        x.copy(0, 9, 9);
        x.copy(9, 0, 9);
        x.piece(0, 101, 0, 0);
        x.piece(410, 101, 0, 0);
        x.rule(0, 1);
        for (int i = 0; i < 20; i++) {
            x.feed(0, 4);
        }
        x.feed(0, 4);
        x.since(0, 0);
        x.run(0);
        int[] due = {1, 1, 2, 1, 1, 1, 2};
        for (int by = -8; by <= -2; by++) {
            DUE.is("32: status(" + by + ")", x.status(by), due[by + 8]);
        }
        DUE.is("32: by -1", x.status(-1), NewsWire.NO);
        DUE.is("32: by -9", x.status(-9), NewsWire.NO);
        DUE.is("32: by 0", x.status(0), NewsWire.NO);
        DUE.is("32: its own refusals count", x.status(NewsWire.NO), 4);
    }
}
