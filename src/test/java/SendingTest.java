/** Promises 12 to 18: filing, garbled ticks, and what is sent, had and paid. */
public final class SendingTest {
    private static final Due DUE = new Due();

    public static void main(String[] args) {
        files();
        garbles();
        garbleRoom();
        runRefusals();
        order();
        ranksByTick();
        garbledWords();
        severalWires();
        barsWhileSending();
        costs();
        firsts();
        quietTicks();
        sixWires();
        DUE.end();
    }

    private static void files() {
        Desk d = new Desk();
        NewsWire x = d.wire;
        x.wire(0, 1, 9);
        x.wire(1, 1, 9);
        x.wire(0, 1, 9);
        for (int i = 0; i < 14; i++) {
            d.piece(Desk.TAKE, 0, 0, 1, 2, 3, 4, 5, 6, 7, 8, 9);
        }
        DUE.is("12: piece 14", x.file(14, 0), NewsWire.BEYOND);
        DUE.is("12: piece -1", x.file(-1, 0), NewsWire.BEYOND);
        DUE.is("12: wire 3", x.file(0, 3), NewsWire.BEYOND);
        DUE.is("12: wire -1", x.file(0, -1), NewsWire.BEYOND);
        DUE.is("12: another bureau", x.file(0, 1), NewsWire.NO);
        for (int i = 0; i < 12; i++) {
            DUE.is("12: file " + i, x.file(i, 0), i + 1);
        }
        DUE.is("12: thirteenth", x.file(12, 0), NewsWire.FULL);
        DUE.is("12: NO ahead of FULL", x.file(3, 0), NewsWire.NO);
        DUE.is("12: on another wire", x.file(3, 2), 1);
        DUE.is("12: one is done", x.run(1), 18);
        DUE.is("12: once on each, done too", x.file(0, 0), NewsWire.NO);
        DUE.is("12: room again", x.file(12, 0), 12);
        DUE.is("12: full again", x.file(13, 0), NewsWire.FULL);
        DUE.is("12: not filed when refused", x.sent(13, 0, 0), NewsWire.MISSING);
    }

    private static void garbles() {
        NewsWire x = new NewsWire();
        DUE.is("13: no wire", x.garble(0, -1), NewsWire.BEYOND);
        x.wire(0, 1, 1);
        x.wire(0, 1, 1);
        DUE.is("13: wire -1", x.garble(-1, 0), NewsWire.BEYOND);
        DUE.is("13: tick -1", x.garble(0, -1), NewsWire.NO);
        DUE.is("13: tick 100001", x.garble(0, 100001), NewsWire.NO);
        DUE.is("13: tick 100000", x.garble(0, 100000), 1);
        DUE.is("13: the open one", x.garble(0, 0), 2);
        DUE.is("13: already", x.garble(0, 0), NewsWire.NO);
        DUE.is("13: another wire", x.garble(1, 0), 3);
        x.run(1);
        DUE.is("13: later ones stay", x.count(7), 1);
        DUE.is("13: past", x.garble(0, 0), NewsWire.NO);
        DUE.is("13: open again", x.garble(1, 1), 2);
    }

    private static void garbleRoom() {
        NewsWire x = new NewsWire();
        x.wire(0, 1, 1);
        x.wire(1, 1, 1);
        for (int i = 0; i < 40; i++) {
            DUE.is("13: garble " + i, x.garble(i % 2, i / 2), i + 1);
        }
        DUE.is("13: forty-first", x.garble(0, 500), NewsWire.FULL);
        DUE.is("13: NO ahead of FULL", x.garble(0, 3), NewsWire.NO);
        x.run(5);
        DUE.is("13: ten are past", x.count(7), 30);
        DUE.is("13: room again", x.garble(0, 500), 31);
        x.run(495);
        DUE.is("13: the open one counts", x.count(7), 1);
        x.run(1);
        DUE.is("13: none left", x.count(7), 0);
    }

    private static void runRefusals() {
        NewsWire x = new NewsWire();
        DUE.is("14: -1", x.run(-1), NewsWire.BELOW);
        DUE.is("14: 0", x.run(0), NewsWire.NO);
        DUE.is("14: 501", x.run(501), NewsWire.NO);
        DUE.is("14: no tick went by", x.count(0), 0);
        DUE.is("14: 500", x.run(500), 0);
        DUE.is("14: 500 went by", x.count(0), 500);
        DUE.is("14: 1", x.run(1), 0);
        DUE.is("14: 501 went by", x.count(0), 501);
    }

    private static void order() {
        Desk d = new Desk();
        NewsWire x = d.wire;
        x.wire(0, 1, 1);
        int low = d.ranked(Desk.TAKE, 3, 0, 0, 1, 2);
        int first = d.ranked(Desk.TAKE, 5, 0, 0, 1, 2);
        int second = d.ranked(Desk.TAKE, 5, 0, 0, 1, 2);
        int high = d.ranked(Desk.TAKE, 9, 0, 0, 1);
        x.file(low, 0);
        x.file(second, 0);
        x.file(first, 0);
        DUE.is("15: places", x.sent(first, 0, 2), 2);
        DUE.is("14: one word", x.run(1), 1);
        DUE.is("15: of two alike the one filed first", x.sent(second, 0, 0), 1);
        x.file(high, 0);
        x.run(1);
        DUE.is("15: the greater breaks in", x.sent(high, 0, 1), 1);
        DUE.is("15: done has no place", x.sent(high, 0, 2), NewsWire.NONE);
        DUE.is("15: broken off", x.sent(second, 0, 0), 1);
        DUE.is("15: not done", x.sent(second, 0, 1), NewsWire.NONE);
        x.run(1);
        DUE.is("15: gone on with", x.sent(second, 0, 1), 2);
        DUE.is("15: next ones move up", x.sent(first, 0, 2), 1);
        DUE.is("14: the rest", x.run(9), 4);
        DUE.is("15: done in 4", x.sent(first, 0, 1), 4);
        DUE.is("15: done in 6", x.sent(low, 0, 1), 6);
        DUE.is("15: heard", x.sent(low, 0, 0), 2);
        DUE.is("15: what 3", x.sent(low, 0, 3), NewsWire.NO);
        DUE.is("15: what -1", x.sent(low, 0, -1), NewsWire.NO);
        int other = d.piece(Desk.TAKE, 0, 0, 1);
        DUE.is("15: missing ahead of what", x.sent(other, 0, 3), NewsWire.MISSING);
        DUE.is("15: piece", x.sent(other + 1, 0, 0), NewsWire.BEYOND);
        DUE.is("15: piece -1", x.sent(-1, 0, 0), NewsWire.BEYOND);
        DUE.is("15: wire", x.sent(low, 1, 0), NewsWire.BEYOND);
        DUE.is("15: wire -1", x.sent(low, -1, 0), NewsWire.BEYOND);
    }

    private static void ranksByTick() {
        Desk d = new Desk();
        NewsWire x = d.wire;
        x.wire(0, 1, 1);
        int a = d.ranked(Desk.TAKE, 5, 0, 0, 1, 2, 3);
        int b = d.ranked(Desk.LEAD, 4, 0, 0, 1, 2, 3);
        x.file(a, 0);
        x.file(b, 0);
        d.rule("rank 6 if kind=1", 1, 3);
        x.run(1);
        DUE.is("14: ahead of the rule", x.sent(a, 0, 0), 1);
        x.run(2);
        DUE.is("14: by the rule", x.sent(b, 0, 0), 2);
        x.run(1);
        DUE.is("14: behind the rule", x.sent(a, 0, 0), 2);
        DUE.is("14: all", x.run(500), 2);
    }

    private static void garbledWords() {
        Desk d = new Desk();
        NewsWire x = d.wire;
        x.wire(0, 1, 3);
        int a = d.piece(Desk.TAKE, 0, 0, 1, 2, 3, 4);
        x.garble(0, 1);
        x.run(1);
        x.file(a, 0);
        DUE.is("14: garbled", x.run(1), 0);
        DUE.is("26: words sent though", x.count(5), 3);
        DUE.is("26: none heard", x.count(6), 0);
        DUE.is("17: none paid", x.cost(0), 0);
        DUE.is("14: sent again", x.run(2), 4);
        DUE.is("26: sent, up to the last word", x.count(5), 7);
        DUE.is("26: heard", x.count(6), 4);
        DUE.is("16: since", x.since(a, 0), 3);
    }

    private static void severalWires() {
        Desk d = new Desk();
        NewsWire x = d.wire;
        x.wire(0, 5, 1);
        x.wire(0, 6, 2);
        int a = d.piece(Desk.TAKE, 0, 0, 1, 2, 3, 4);
        x.file(a, 0);
        x.file(a, 1);
        x.garble(1, 0);
        DUE.is("14: only that wire is garbled", x.run(1), 1);
        DUE.is("14: both", x.run(2), 6);
        DUE.is("16: by the faster one", x.since(a, 1), 2);
        DUE.is("16: by both papers of it", x.since(a, 2), 2);
        DUE.is("16: not yet", x.since(a, 0), NewsWire.NONE);
        x.run(1);
        DUE.is("16: by the slower one", x.since(a, 0), 3);
        DUE.is("16: had already", x.since(a, 2), 2);
        DUE.is("17: paid twice", x.cost(2), 8);
        DUE.is("17: paid once", x.cost(0), 4);
        DUE.is("16: no wire goes there", x.since(a, 7), NewsWire.NONE);
        DUE.is("16: piece 1", x.since(1, 0), NewsWire.BEYOND);
        DUE.is("16: piece -1", x.since(-1, 0), NewsWire.BEYOND);
        DUE.is("16: paper 8", x.since(0, 8), NewsWire.BEYOND);
        DUE.is("16: paper -1", x.since(0, -1), NewsWire.BEYOND);
    }

    private static void barsWhileSending() {
        Desk d = new Desk();
        NewsWire x = d.wire;
        x.wire(0, 7, 1);
        int a = d.piece(Desk.TAKE, 0, 0, 1, 2, 3);
        d.rule("bar 0", 0, 2);
        d.rule("bar 1", 2, 3);
        x.file(a, 0);
        x.run(3);
        DUE.is("16: barred but for the last word", x.since(a, 0), 2);
        DUE.is("16: barred for the last word", x.since(a, 1), NewsWire.NONE);
        DUE.is("16: never barred", x.since(a, 2), 2);
        DUE.is("17: pays the last", x.cost(0), 1);
        DUE.is("17: pays the first two", x.cost(1), 2);
        DUE.is("17: pays all", x.cost(2), 3);
        x.run(5);
        DUE.is("16: it does not come by itself", x.since(a, 1), NewsWire.NONE);
    }

    private static void costs() {
        Desk d = new Desk();
        NewsWire x = d.wire;
        x.wire(0, 3, 1);
        int a = d.piece(Desk.TAKE, 0, 0, 1, 2, 3, 4);
        x.file(a, 0);
        d.rule("cost 9 if paper=0", 1, 4);
        d.rule("cost 4 if paper=0", 2, 3);
        d.rule("cost 0", 3, 4);
        d.rule("rank 8");
        int[] zero = {1, 10, 14, 14};
        int[] one = {1, 2, 3, 3};
        for (int i = 0; i < 4; i++) {
            x.run(1);
            DUE.is("17: paper 0 after " + i, x.cost(0), zero[i]);
            DUE.is("17: paper 1 after " + i, x.cost(1), one[i]);
        }
        DUE.is("17: paper 8", x.cost(8), NewsWire.BEYOND);
        DUE.is("17: paper -1", x.cost(-1), NewsWire.BEYOND);
    }

    private static void firsts() {
        Desk d = new Desk();
        NewsWire x = d.wire;
        x.wire(0, 1, 1);
        d.row(1, 2);
        x.piece(70, 501, 0, 0);
        x.piece(70, 401, 1, 0);
        x.piece(0, 601, 1, 0);
        x.file(0, 0);
        x.file(1, 0);
        x.file(2, 0);
        DUE.is("18: none yet", x.first(7, 0), NewsWire.NONE);
        x.run(3);
        DUE.is("18: story 7", x.first(7, 0), 1);
        DUE.is("18: story 0", x.first(0, 0), 0);
        DUE.is("18: story 1", x.first(1, 0), NewsWire.NONE);
        DUE.is("18: paper 1", x.first(7, 1), NewsWire.NONE);
        DUE.is("18: story 8", x.first(8, 0), NewsWire.BEYOND);
        DUE.is("18: story -1", x.first(-1, 0), NewsWire.BEYOND);
        DUE.is("18: paper 8", x.first(0, 8), NewsWire.BEYOND);
        DUE.is("18: paper -1", x.first(0, -1), NewsWire.BEYOND);
        Desk e = new Desk();
        e.wire.wire(0, 1, 1);
        int late = e.ranked(Desk.TAKE, 1, 0, 0, 1);
        int early = e.ranked(Desk.TAKE, 2, 1, 0, 1);
        e.wire.file(late, 0);
        e.wire.file(early, 0);
        e.wire.run(2);
        DUE.is("18: the earlier of two", e.wire.first(0, 0), 0);
    }

    private static void sixWires() {
        Desk d = new Desk();
        NewsWire x = d.wire;
        int a = d.piece(Desk.TAKE, 0, 0, 1, 2, 3);
        for (int i = 0; i < 6; i++) {
            x.wire(0, 1 << i, 1);
            x.file(a, i);
        }
        x.garble(5, 0);
        DUE.is("14: all but the garbled one", x.run(1), 5);
        DUE.is("14: all six", x.run(2), 12);
        DUE.is("14: the last one", x.run(9), 1);
        DUE.is("16: by the sixth wire", x.since(a, 5), 3);
        DUE.is("16: by the fifth wire", x.since(a, 4), 2);
        DUE.is("15: on the sixth wire", x.sent(a, 5, 1), 3);
    }

    private static void quietTicks() {
        Desk d = new Desk();
        NewsWire x = d.wire;
        x.wire(0, 1, 1);
        int a = d.piece(Desk.TAKE, 0, 0, 1, 2);
        x.run(7);
        x.file(a, 0);
        DUE.is("14: words in the midst of quiet ticks", x.run(500), 2);
        DUE.is("26: all ticks went by", x.count(0), 507);
        DUE.is("15: done early", x.sent(a, 0, 1), 8);
        for (int i = 0; i < 250; i++) {
            x.run(500);
        }
        DUE.is("26: ticks beyond 100000", x.count(0), 125507);
        DUE.is("13: no garbling there", x.garble(0, 125507), NewsWire.NO);
        int b = d.piece(Desk.TAKE, 0, 0, 1, 2);
        x.file(b, 0);
        DUE.is("14: sending goes on there", x.run(2), 2);
        DUE.is("16: since", x.since(b, 0), 125508);
    }
}
