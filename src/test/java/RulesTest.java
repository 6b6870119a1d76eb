/** Promises 6 to 11: the tape and the rules that are read from it. */
public final class RulesTest {
    private static final Due DUE = new Due();

    public static void main(String[] args) {
        feeds();
        faults();
        rules();
        tests();
        ticks();
        ranks();
        bars();
        tenRules();
        DUE.end();
    }

    private static void feeds() {
        NewsWire x = new NewsWire();
        DUE.is("6: below", x.feed(1, -1), NewsWire.BELOW);
        DUE.is("6: five", x.feed(1, 5), NewsWire.NO);
        DUE.is("6: none", x.feed(1, 0), 0);
        DUE.is("6: four", x.feed(('r' << 24) + ('a' << 16) + ('n' << 8) + 'k', 4), 4);
        DUE.is("6: the lowest alone", x.feed(0x7f7f7f00 + ' ', 1), 5);
        DUE.is("6: two", x.feed((1 << 30) + ('0' << 8) + '7', 2), 7);
        DUE.is("6: fed bytes are a rule", x.rule(0, 1), 0);
        DUE.is("6: a rule empties the tape", x.count(4), 0);
        for (int i = 1; i <= 20; i++) {
            DUE.is("6: full by fours", x.feed(-1, 4), 4 * i);
        }
        DUE.is("6: full", x.feed(0, 1), NewsWire.FULL);
        DUE.is("6: none fits", x.feed(0, 0), 80);
        DUE.is("6: NO ahead of FULL", x.feed(0, 5), NewsWire.NO);
        DUE.is("7: wipe", x.wipe(), 80);
        DUE.is("7: wipe again", x.wipe(), 0);
        for (int i = 1; i <= 77; i++) {
            x.feed(0, 1);
        }
        DUE.is("6: four behind 77", x.feed(0, 4), NewsWire.FULL);
        DUE.is("6: three behind 77", x.feed(0, 3), 80);
    }

    /** Each text with the place of its fault. */
    private static void faults() {
        Object[][] texts = {
            {"", 0}, {"x", 0}, {"R", 0}, {" rank 1", 0}, {"r", 1}, {"rrnk 1", 1}, {"bark 1", 3}, {"rank", 4},
            {"rank1", 4}, {"rank  1", 5}, {"rank ", 5}, {"rank -1", 5}, {"rank 12345", 9}, {"rank 1234", -1},
            {"rank 1 ", 7}, {"rank 1x", 6}, {"rank 1  if", 7}, {"rank 1 and", 7}, {"rank 1 if", 9},
            {"rank 1 if ", 10}, {"rank 1 if x", 10}, {"rank 1 if kin", 13}, {"rank 1 if kinds=1", 14},
            {"rank 1 if kind", 14}, {"rank 1 if kind =1", 14}, {"rank 1 if kind>=1", 15}, {"rank 1 if kind= 1", 15},
            {"rank 1 if kind=", 15}, {"rank 1 if kind=12345", 19}, {"rank 1 if kind=1 ", 17},
            {"rank 1 if kind=1 if", 17}, {"rank 1 if kind=1 and", 20}, {"rank 1 if kind=1 and ", 21},
            {"rank 1 if kind=1 and and", 21}, {"rank 1 if kind=1and story=1", 16},
            {"cost 1 if story=1 and words=1 and bureaux=1", 40}, {"cost 1 if paper=1 and paper=1 and paper=1 ", 41},
            {"cost 1 if paper=1 and paper=1 and paper=1x", 41}, {"cost 1 if paper=1 and paper=1 and paper=", 40},
            {"cost 1 if paper=1 and paper=1 and paper=1 and paper=1", 41}, {"ranx 99", 3}, {"rank 99 i", 9},
            {"bar 99 if kind!1", 14}, {"cost 1 if kind~1", 14}, {"\u00f2ank 1", 0}, {"rank 1\u0000", 6},
        };
        for (Object[] text : texts) {
            Desk d = new Desk();
            String told = (String) text[0];
            int fault = (Integer) text[1];
            int due = fault >= 0 ? -10 - fault : NewsWire.NO;
            DUE.is("8: fault of '" + told + "'", d.rule(told), due);
            DUE.is("8: the tape stays of '" + told + "'", d.wire.count(4), told.length());
            DUE.is("8: no rule of '" + told + "'", d.wire.count(3), 0);
        }
    }

    private static void rules() {
        Desk d = new Desk();
        NewsWire x = d.wire;
        DUE.is("8: ticks ahead of fault", d.rule("x", 5, 5), NewsWire.NO);
        DUE.is("8: from behind to", d.rule("rank 1", 6, 5), NewsWire.NO);
        DUE.is("8: from -1", d.rule("rank 1", -1, 5), NewsWire.NO);
        DUE.is("8: to 100001", d.rule("rank 1", 0, 100001), NewsWire.NO);
        DUE.is("8: ends", d.rule("rank 1", 99999, 100000), 0);
        DUE.is("8: rank 10", d.rule("rank 10"), NewsWire.NO);
        DUE.is("8: bar 8", d.rule("bar 8"), NewsWire.NO);
        DUE.is("8: cost 10", d.rule("cost 10"), NewsWire.NO);
        DUE.is("8: the tape stays", x.count(4), 7);
        DUE.is("8: fault ahead of number", d.rule("cost 10 "), -18);
        DUE.is("8: rank 9", d.rule("rank 9"), 1);
        DUE.is("8: bar 7", d.rule("bar 7"), 2);
        DUE.is("8: cost 9", d.rule("cost 9"), 3);
        DUE.is("8: digits", d.rule("cost 0009 if kind=9999"), 4);
        DUE.is("8: the longest", d.rule("rank 0000 if bureau=0000 and bureau=0000 and bureau=0000"), 5);
        for (int i = 6; i < 10; i++) {
            DUE.is("8: rule " + i, d.rule("cost 0"), i);
        }
        DUE.is("8: eleventh", d.rule("cost 0"), NewsWire.FULL);
        DUE.is("8: full ahead of fault", d.rule("x"), NewsWire.FULL);
        DUE.is("8: ticks ahead of full", d.rule("x", 1, 1), NewsWire.NO);
        DUE.is("8: the tape stays when full", x.count(4), 1);
        DUE.is("8: ten", x.count(3), 10);
    }

    private static void tests() {
        Desk d = new Desk();
        NewsWire x = d.wire;
        d.row(1, 2, 3);
        DUE.is("a take", x.piece(24, 103, 0, 0), 0);
        DUE.is("a lead", x.piece(131, 102, 0, 0), 1);
        Object[][] rules = {
            {"cost 0 if kind=0", 1, 0}, {"cost 0 if story=3", 0, 1}, {"cost 0 if bureau<4", 0, 1},
            {"cost 0 if words>2", 1, 0}, {"cost 0 if words<3", 0, 1}, {"cost 0 if words=3", 1, 0},
            {"cost 0 if kind<1 and words>2 and story=2", 1, 0}, {"cost 0 if kind=1 and words>2", 0, 0},
            {"cost 0 if kind=0 and words=3 and bureau=5", 0, 0}, {"cost 0", 1, 1},
        };
        for (int i = 0; i < rules.length; i++) {
            DUE.is("9: rule " + i, d.rule((String) rules[i][0]), i);
            for (int piece = 0; piece < 2; piece++) {
                String call = "9: '" + rules[i][0] + "' for " + piece;
                DUE.is(call, x.holds(i, piece, NewsWire.NONE), (Integer) rules[i][1 + piece]);
                DUE.is(call + " and a paper", x.holds(i, piece, 7), (Integer) rules[i][1 + piece]);
            }
        }
        Desk e = new Desk();
        e.piece(Desk.TAKE, 0, 0, 1);
        e.rule("rank 9 if paper=2");
        e.rule("rank 9 if paper<2");
        e.rule("rank 9 if paper>2");
        for (int paper = 0; paper < 8; paper++) {
            DUE.is("9: paper=2", e.wire.holds(0, 0, paper), paper == 2 ? 1 : 0);
            DUE.is("9: paper<2", e.wire.holds(1, 0, paper), paper < 2 ? 1 : 0);
            DUE.is("9: paper>2", e.wire.holds(2, 0, paper), paper > 2 ? 1 : 0);
        }
        for (int rule = 0; rule < 3; rule++) {
            DUE.is("9: a test of paper for a piece alone", e.wire.holds(rule, 0, NewsWire.NONE), 0);
        }
        DUE.is("10: no rank by paper", e.wire.rank(0), 5);
        DUE.is("9: rule 3", e.wire.holds(3, 0, 0), NewsWire.BEYOND);
        DUE.is("9: rule -1", e.wire.holds(-1, 0, 0), NewsWire.BEYOND);
        DUE.is("9: piece 1", e.wire.holds(0, 1, 0), NewsWire.BEYOND);
        DUE.is("9: piece -1", e.wire.holds(0, -1, 0), NewsWire.BEYOND);
        DUE.is("9: paper 8", e.wire.holds(0, 0, 8), NewsWire.BEYOND);
        DUE.is("9: paper -2", e.wire.holds(0, 0, -2), NewsWire.BEYOND);
    }

    private static void ticks() {
        Desk d = new Desk();
        NewsWire x = d.wire;
        d.piece(Desk.TAKE, 0, 0, 1);
        d.rule("rank 8", 2, 4);
        d.rule("bar 0", 1, 3);
        int[] ranks = {5, 5, 8, 8, 5};
        int[] bars = {0, 1, 1, 0, 0};
        for (int tick = 0; tick < 5; tick++) {
            DUE.is("9: in tick " + tick, x.holds(0, 0, -1), tick == 2 || tick == 3 ? 1 : 0);
            DUE.is("10: rank in tick " + tick, x.rank(0), ranks[tick]);
            DUE.is("11: barred in tick " + tick, x.barred(0, 0), bars[tick]);
            x.run(1);
        }
    }

    private static void ranks() {
        Desk d = new Desk();
        NewsWire x = d.wire;
        d.piece(Desk.TAKE, 0, 0, 1);
        d.piece(Desk.TAKE, 0, 0, 1, 2);
        DUE.is("10: as told", x.rank(0), 5);
        d.rule("rank 9");
        d.rule("rank 3 if words=2");
        d.rule("cost 7");
        d.rule("bar 6");
        DUE.is("10: by the one that holds", x.rank(0), 9);
        DUE.is("10: by the latest, not the greatest", x.rank(1), 3);
        DUE.is("10: beyond", x.rank(2), NewsWire.BEYOND);
        DUE.is("10: below", x.rank(-1), NewsWire.BEYOND);
    }

    private static void tenRules() {
        Desk d = new Desk();
        d.piece(Desk.TAKE, 0, 0, 1);
        for (int i = 0; i < 9; i++) {
            d.rule("cost 3");
        }
        d.rule("bar 7");
        DUE.is("10: no rank among ten", d.wire.rank(0), 5);
        DUE.is("11: barred by the tenth", d.wire.barred(0, 7), 1);
        DUE.is("11: by none of ten", d.wire.barred(0, 6), 0);
        DUE.is("9: the tenth", d.wire.holds(9, 0, 7), 1);
        DUE.is("9: no eleventh", d.wire.holds(10, 0, 7), NewsWire.BEYOND);
    }

    private static void bars() {
        Desk d = new Desk();
        NewsWire x = d.wire;
        d.piece(Desk.TAKE, 0, 0, 1);
        d.piece(Desk.LEAD, 0, 0, 1, 2);
        d.rule("bar 3 if words=2");
        d.rule("bar 4 if paper=4");
        d.rule("bar 5 if paper=4");
        d.rule("cost 6");
        d.rule("rank 7");
        for (int paper = 0; paper < 8; paper++) {
            DUE.is("11: take at " + paper, x.barred(0, paper), paper == 4 ? 1 : 0);
            DUE.is("11: lead at " + paper, x.barred(1, paper), paper == 4 || paper == 3 ? 1 : 0);
        }
        DUE.is("11: piece 2", x.barred(2, 0), NewsWire.BEYOND);
        DUE.is("11: piece -1", x.barred(-1, 0), NewsWire.BEYOND);
        DUE.is("11: paper 8", x.barred(0, 8), NewsWire.BEYOND);
        DUE.is("11: paper none", x.barred(0, NewsWire.NONE), NewsWire.BEYOND);
    }
}
