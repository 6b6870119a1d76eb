/** Promises 19 to 26: texts, editions, worth and counts. */
public final class TextsTest {
    private static final Due DUE = new Due();

    public static void main(String[] args) {
        refusals();
        parts();
        leads();
        held();
        corrects();
        inserts();
        kills();
        whatAPaperHas();
        longest();
        editions();
        behind();
        worths();
        worthTies();
        counts();
        DUE.end();
    }

    private static void is(String what, String got, String want) {
        DUE.so(what + ": '" + got + "', due is '" + want + "'", got.equals(want));
    }

    private static Desk deskWithWire(int papers) {
        Desk d = new Desk();
        d.wire.wire(0, papers, 9);
        return d;
    }

    private static void refusals() {
        Desk d = deskWithWire(255);
        NewsWire x = d.wire;
        d.send(d.piece(Desk.TAKE, 0, 0, 7), 0);
        int[] told = {-1, 8, 9, 80, 78, 100, Integer.MIN_VALUE, Integer.MAX_VALUE};
        for (int t : told) {
            DUE.is("19: told " + t, x.text(t, 0, 9), NewsWire.BEYOND);
            DUE.is("20: told " + t, x.read(t, 0, 0), NewsWire.BEYOND);
            DUE.is("21: told " + t, x.from(t, 0, 0), NewsWire.BEYOND);
        }
        int[] ticks = {-1, 2, Integer.MIN_VALUE, Integer.MAX_VALUE};
        for (int t : ticks) {
            DUE.is("19: tick " + t, x.text(0, t, 0), NewsWire.BEYOND);
            DUE.is("20: tick " + t, x.read(0, t, 0), NewsWire.BEYOND);
            DUE.is("21: tick " + t, x.from(0, t, 0), NewsWire.BEYOND);
        }
        DUE.is("19: what 4", x.text(0, 0, 4), NewsWire.NO);
        DUE.is("19: what -1", x.text(0, 0, -1), NewsWire.NO);
        DUE.is("20: there", x.read(7, 0, 0), 7);
        DUE.is("20: i 1", x.read(0, 1, 1), NewsWire.BEYOND);
        DUE.is("20: i -1", x.read(0, 1, -1), NewsWire.BEYOND);
        DUE.is("21: there", x.from(7, 0, 0), 0);
        DUE.is("21: i 1", x.from(0, 1, 1), NewsWire.BEYOND);
        DUE.is("21: i -1", x.from(0, 1, -1), NewsWire.BEYOND);
        DUE.is("20: no words in story 7", x.read(77, 1, 0), NewsWire.BEYOND);
        DUE.is("19: story 7 at paper 7", x.text(77, 1, 0), 0);
    }

    private static void parts() {
        Desk d = deskWithWire(1);
        NewsWire x = d.wire;
        DUE.is("19: nothing has no gap", x.text(0, 0, 1), NewsWire.NONE);
        DUE.is("19: nothing has no parts", x.text(0, 0, 3), 0);
        d.send(d.piece(Desk.TAKE, 2, 0, 20), 0);
        DUE.is("19: gap 0", x.text(0, 1, 1), 0);
        DUE.is("19: no parts ahead of the gap", x.text(0, 1, 3), 0);
        DUE.is("19: no words ahead of the gap", x.text(0, 1, 0), 0);
        d.send(d.piece(Desk.TAKE, 0, 0, 1), 0);
        DUE.is("19: gap 1", x.text(0, 2, 1), 1);
        is("20: up to the gap", d.text(0, 2), "1");
        d.send(d.piece(Desk.TAKE, 1, 0, 10, 11), 0);
        DUE.is("19: no gap", x.text(0, 3, 1), NewsWire.NONE);
        DUE.is("19: three parts", x.text(0, 3, 3), 3);
        is("20: part by part", d.text(0, 3), "1 10 11 20");
        int later = d.piece(Desk.TAKE, 1, 0, 12);
        int latest = d.piece(Desk.TAKE, 1, 0, 13);
        d.send(latest, 0);
        d.send(later, 0);
        is("20: the greatest number of a part", d.text(0, 5), "1 13 20");
        is("21: by piece", d.from(0, 5), "1 4 0");
        for (int part = 3; part < 8; part++) {
            d.send(d.piece(Desk.TAKE, part, 0, 10 * part), 0);
        }
        DUE.is("19: eight parts", x.text(0, 10, 3), 8);
        DUE.is("19: eight parts have no gap", x.text(0, 10, 1), NewsWire.NONE);
        is("20: all parts", d.text(0, 10), "1 13 20 30 40 50 60 70");
        is("20: as it was", d.text(0, 1), "1");
        DUE.is("19: gap as it was", x.text(0, 0, 1), 0);
    }

    private static void leads() {
        Desk d = deskWithWire(1);
        NewsWire x = d.wire;
        d.send(d.piece(Desk.TAKE, 0, 0, 1), 0);
        DUE.is("19: no lead", x.text(0, 0, 2), NewsWire.NONE);
        int older = d.piece(Desk.LEAD, 0, 0, 90);
        int newer = d.piece(Desk.LEAD, 0, 0, 91, 92);
        d.send(newer, 0);
        d.send(older, 0);
        DUE.is("19: the lead of the greatest number", x.text(0, 2, 2), newer);
        is("20: the lead comes first", d.text(0, 2), "91 92 1");
        DUE.is("19: ahead of it none", x.text(0, 0, 2), NewsWire.NONE);
        Desk e = deskWithWire(1);
        e.send(e.piece(Desk.LEAD, 0, 0, 1), 0);
        DUE.is("19: piece 0 can be a lead", e.wire.text(0, 0, 2), 0);
        d.row(1);
        int other = x.piece(110, 101, 0, 0);
        d.send(other, 0);
        is("20: a lead alone", d.text(10, 4), "1");
        DUE.is("19: a lead is no part", x.text(10, 4, 3), 0);
    }

    private static void held() {
        Desk d = deskWithWire(1);
        NewsWire x = d.wire;
        int first = d.piece(Desk.TAKE, 0, 0, 1);
        int waits = d.piece(Desk.HELD, 0, 3, 2);
        int behind = d.piece(Desk.TAKE, 1, 0, 3);
        int waitsToo = d.piece(Desk.HELD, 2, 5, 4);
        int mends = d.piece(Desk.CORRECT, waits, 0, 5);
        x.file(first, 0);
        x.file(waits, 0);
        x.file(behind, 0);
        x.file(waitsToo, 0);
        x.file(mends, 0);
        x.run(5);
        is("20: ahead of its tick the take stands", d.text(0, 2), "1 3");
        is("20: in its tick the held one", d.text(0, 3), "5 3");
        DUE.is("19: a held part is no gap", x.text(0, 4, 1), NewsWire.NONE);
        DUE.is("19: parts ahead", x.text(0, 4, 3), 2);
        is("20: both", d.text(0, 5), "5 3 4");
        int kill = d.piece(Desk.KILL, waits, 0, 9);
        d.send(kill, 0);
        is("20: a held one is killed", d.text(0, 6), "1 3 4");
        Desk e = deskWithWire(1);
        e.send(e.piece(Desk.HELD, 1, 2, 1), 0);
        DUE.is("19: a held part behind makes no gap yet", e.wire.text(0, 1, 1), NewsWire.NONE);
        e.wire.run(1);
        DUE.is("19: then it does", e.wire.text(0, 2, 1), 0);
    }

    private static void corrects() {
        Desk d = deskWithWire(1);
        int take = d.piece(Desk.TAKE, 0, 0, 1, 2, 3, 4);
        int lead = d.piece(Desk.LEAD, 0, 0, 5, 6);
        int one = d.piece(Desk.CORRECT, take, 1, 21, 22);
        int two = d.piece(Desk.CORRECT, take, 2, 31, 32);
        int three = d.piece(Desk.CORRECT, lead, 0, 41);
        d.send(take, 0);
        d.send(two, 0);
        is("20: one correct", d.text(0, 1), "1 2 31 32");
        d.send(one, 0);
        is("20: by numbers, not as they came in", d.text(0, 2), "1 21 31 32");
        is("21: who brought them", d.from(0, 2), take + " " + one + " " + two + " " + two);
        d.send(lead, 0);
        d.send(three, 0);
        is("20: a lead is corrected", d.text(0, 4), "41 6 1 21 31 32");
        is("20: as it was", d.text(0, 0), "1 2 3 4");
        d.send(d.piece(Desk.KILL, two, 0, 1), 0);
        is("20: a correct is killed", d.text(0, 5), "41 6 1 21 22 4");
        d.send(d.piece(Desk.CORRECT, take, 0, 51, 52, 53, 54), 0);
        is("20: all of it", d.text(0, 6), "41 6 51 52 53 54");
    }

    private static void inserts() {
        Desk d = deskWithWire(1);
        int take = d.piece(Desk.TAKE, 0, 0, 1, 2);
        int lead = d.piece(Desk.LEAD, 0, 0, 5);
        int middle = d.piece(Desk.INSERT, take, 1, 21, 22);
        int alsoMiddle = d.piece(Desk.INSERT, take, 1, 23);
        int end = d.piece(Desk.INSERT, take, 2, 24);
        int head = d.piece(Desk.INSERT, take, 0, 25);
        int ofLead = d.piece(Desk.INSERT, lead, 1, 26);
        int correct = d.piece(Desk.CORRECT, take, 0, 31, 32);
        d.send(take, 0);
        d.send(alsoMiddle, 0);
        d.send(middle, 0);
        is("20: several at one place by numbers", d.text(0, 2), "1 21 22 23 2");
        d.send(end, 0);
        d.send(head, 0);
        is("20: at the end and the head", d.text(0, 4), "25 1 21 22 23 2 24");
        d.send(ofLead, 0);
        is("20: into what is not there", d.text(0, 5), "25 1 21 22 23 2 24");
        d.send(lead, 0);
        d.send(correct, 0);
        is("20: with corrects", d.text(0, 7), "5 26 25 31 21 22 23 32 24");
        is("21: who brought them", d.from(0, 7), "1 6 5 7 2 2 3 7 4");
        d.send(d.piece(Desk.TAKE, 0, 0, 9), 0);
        is("20: they go with their take", d.text(0, 8), "5 26 9");
        d.send(d.piece(Desk.KILL, 8, 0, 9), 0);
        is("20: and come back with it", d.text(0, 9), "5 26 25 31 21 22 23 32 24");
    }

    private static void kills() {
        Desk d = deskWithWire(1);
        NewsWire x = d.wire;
        int older = d.piece(Desk.TAKE, 0, 0, 1);
        int newer = d.piece(Desk.TAKE, 0, 0, 2);
        int lead = d.piece(Desk.LEAD, 0, 0, 3);
        int insert = d.piece(Desk.INSERT, older, 0, 4);
        d.send(older, 0);
        d.send(newer, 0);
        d.send(lead, 0);
        d.send(insert, 0);
        is("20: ahead of all kills", d.text(0, 4), "3 2");
        d.send(d.piece(Desk.KILL, newer, 0, 7), 0);
        is("20: the older one again", d.text(0, 4), "3 4 1");
        d.send(d.piece(Desk.KILL, insert, 0, 7), 0);
        is("20: without its insert", d.text(0, 5), "3 1");
        d.send(d.piece(Desk.KILL, lead, 0, 7), 0);
        is("20: without lead", d.text(0, 6), "1");
        DUE.is("19: no lead", x.text(0, 6, 2), NewsWire.NONE);
        d.send(d.piece(Desk.KILL, older, 0, 7), 0);
        is("20: nothing", d.text(0, 7), "");
        is("20: as it was in 3", d.text(0, 3), "3 2");
        int early = d.piece(Desk.TAKE, 1, 0, 5);
        d.send(d.piece(Desk.KILL, early, 0, 7), 0);
        d.send(early, 0);
        DUE.is("19: killed ahead of its coming", x.text(0, 9, 1), NewsWire.NONE);
        is("20: it never stands", d.text(0, 10), "");
    }

    private static void whatAPaperHas() {
        Desk d = deskWithWire(1);
        NewsWire x = d.wire;
        x.wire(0, 2, 1);
        int take = d.piece(Desk.TAKE, 0, 0, 1, 2);
        int kill = d.piece(Desk.KILL, take, 0, 3);
        d.send(take, 0);
        d.send(take, 1);
        d.send(kill, 0);
        is("20: killed at paper 0", d.text(0, 4), "");
        is("20: stands at paper 1", d.text(1, 4), "1 2");
        is("20: not ahead of its last word", d.text(1, 1), "");
        is("20: from that tick on", d.text(1, 2), "1 2");
        is("20: the other story is empty", d.text(11, 4), "");
    }

    private static void longest() {
        Desk d = deskWithWire(1);
        NewsWire x = d.wire;
        int[] twelve = {1, 2, 3, 4, 5, 6, 7, 8, 9, 10, 11, 12};
        int take = d.piece(Desk.TAKE, 0, 0, twelve);
        x.file(take, 0);
        for (int i = 1; i < 40; i++) {
            int insert = d.piece(Desk.INSERT, take, i % 13, twelve);
            if (x.file(insert, 0) == NewsWire.FULL) {
                x.run(20);
                x.file(insert, 0);
            }
        }
        x.run(20);
        DUE.is("19: forty pieces of twelve words", x.text(0, x.count(0), 0), 480);
        DUE.is("20: the last word", x.read(0, x.count(0), 479), 12);
        DUE.is("21: the last word", x.from(0, x.count(0), 479), 38);
        DUE.is("22: all of it", x.edition(0), 480);
        DUE.is("23: none of forty behind", x.printed(0, 2), 0);
        DUE.is("23: no least of forty", x.printed(0, 3), NewsWire.NONE);
        DUE.is("18: the first of forty", x.first(0, 0), 1);
    }

    private static void editions() {
        Desk d = deskWithWire(3);
        NewsWire x = d.wire;
        DUE.is("22: paper 8", x.edition(8), NewsWire.BEYOND);
        DUE.is("22: paper -1", x.edition(-1), NewsWire.BEYOND);
        DUE.is("23: paper 8", x.printed(8, 9), NewsWire.BEYOND);
        DUE.is("23: paper -1", x.printed(-1, 0), NewsWire.BEYOND);
        DUE.is("23: none, ahead of what", x.printed(0, 9), NewsWire.MISSING);
        DUE.is("22: empty", x.edition(0), 0);
        DUE.is("23: tick", x.printed(0, 0), 0);
        DUE.is("23: words", x.printed(0, 1), 0);
        d.row(1, 2, 3);
        for (int story = 0; story < 8; story++) {
            d.send(x.piece(10 * story, 502, 0, 0), 0);
        }
        d.send(x.piece(70, 503, 2, 0), 0);
        int heldToNow = x.piece(510, 501, 1, 10);
        d.send(heldToNow, 0);
        DUE.is("22: all stories, to their gaps, held to the open tick", x.edition(0), 17);
        DUE.is("23: the latest", x.printed(0, 0), 10);
        DUE.is("23: its words", x.printed(0, 1), 17);
        DUE.is("23: what 4", x.printed(0, 4), NewsWire.NO);
        DUE.is("23: what -1", x.printed(0, -1), NewsWire.NO);
        DUE.is("23: another paper", x.printed(1, 0), NewsWire.MISSING);
    }

    private static void behind() {
        Desk d = deskWithWire(3);
        NewsWire x = d.wire;
        int take = d.piece(Desk.TAKE, 0, 0, 1, 2);
        int lead = d.piece(Desk.LEAD, 0, 0, 3);
        int unused = d.piece(Desk.TAKE, 5, 0, 4);
        int covered = d.piece(Desk.TAKE, 1, 0, 5);
        int covering = d.piece(Desk.CORRECT, covered, 0, 6);
        int early = d.piece(Desk.CORRECT, take, 0, 7);
        int[] first = {take, lead, unused, covered, covering, early};
        for (int piece : first) {
            x.file(piece, 0);
        }
        x.run(1);
        DUE.is("22: words", x.edition(0), 4);
        DUE.is("23: none behind", x.printed(0, 2), 0);
        DUE.is("23: no least", x.printed(0, 3), NewsWire.NONE);
        int killUnused = d.piece(Desk.KILL, unused, 0, 1);
        int correctCovered = d.piece(Desk.CORRECT, covered, 0, 1);
        int insert = d.piece(Desk.INSERT, take, 0, 1);
        int killCovering = d.piece(Desk.KILL, covering, 0, 1);
        int correct = d.piece(Desk.CORRECT, take, 1, 1);
        int kill = d.piece(Desk.KILL, lead, 0, 1);
        d.send(killUnused, 0);
        d.send(correctCovered, 0);
        d.send(insert, 0);
        DUE.is("23: of pieces that brought nothing, or no kill nor correct", x.printed(0, 2), 0);
        d.send(kill, 0);
        DUE.is("23: a kill", x.printed(0, 3), kill);
        d.send(correct, 0);
        d.send(killCovering, 0);
        DUE.is("23: three behind", x.printed(0, 2), 3);
        DUE.is("23: the least", x.printed(0, 3), killCovering);
        d.send(d.piece(Desk.KILL, correct, 0, 1), 0);
        DUE.is("23: one that is killed still is behind, its kill not", x.printed(0, 2), 3);
        DUE.is("23: the words stay", x.printed(0, 1), 4);
        x.edition(0);
        DUE.is("23: a new edition has none", x.printed(0, 2), 0);
        DUE.is("23: another paper", x.printed(1, 2), NewsWire.MISSING);
    }

    private static void worths() {
        Desk d = new Desk();
        NewsWire x = d.wire;
        x.wire(0, 1, 2);
        DUE.is("24: wire 1", x.worth(1, -1), NewsWire.BEYOND);
        DUE.is("24: wire -1", x.worth(-1, 0), NewsWire.BEYOND);
        DUE.is("24: n -1", x.worth(0, -1), NewsWire.BELOW);
        DUE.is("24: n 1001", x.worth(0, 1001), NewsWire.NO);
        DUE.is("24: nothing filed", x.worth(0, 1000), 0);
        int a = d.ranked(Desk.TAKE, 9, 0, 0, 1, 2, 3, 4, 5);
        int b = d.ranked(Desk.TAKE, 6, 0, 0, 1, 2, 3);
        int c = d.ranked(Desk.TAKE, 5, 0, 0, 1, 2, 3);
        x.file(c, 0);
        x.file(a, 0);
        x.file(b, 0);
        DUE.is("24: three ticks", x.worth(0, 3), 13);
        DUE.is("25: the first and the third", x.plan(), 5);
        DUE.is("24: two ticks", x.worth(0, 2), 7);
        DUE.is("25: the third", x.plan(), 4);
        DUE.is("24: refused", x.worth(0, 1001), NewsWire.NO);
        DUE.is("25: stays", x.plan(), 4);
        DUE.is("24: all", x.worth(0, 1000), 23);
        DUE.is("25: all", x.plan(), 7);
        DUE.is("24: no tick", x.worth(0, 0), 0);
        DUE.is("25: none", x.plan(), 0);
        x.run(2);
        DUE.is("24: what is left of a", x.worth(0, 1), 10);
        DUE.is("25: a", x.plan(), 2);
        x.run(1);
        DUE.is("24: a is done", x.worth(0, 2), 7);
        DUE.is("25: b moved up", x.plan(), 2);
        d.rule("rank 0", 3, 4);
        DUE.is("24: ranks of now", x.worth(0, 3), 2);
        DUE.is("25: both", x.plan(), 3);
    }

    private static void worthTies() {
        Desk d = new Desk();
        NewsWire x = d.wire;
        x.wire(0, 1, 1);
        x.file(d.ranked(Desk.TAKE, 3, 0, 0, 1, 2, 3), 0);
        x.file(d.ranked(Desk.TAKE, 1, 0, 0, 1, 2), 0);
        x.file(d.ranked(Desk.TAKE, 1, 0, 0, 1), 0);
        x.file(d.ranked(Desk.TAKE, 1, 0, 0, 1), 0);
        x.file(d.ranked(Desk.TAKE, 1, 0, 0, 1), 0);
        DUE.is("24: of the same sum", x.worth(0, 3), 6);
        DUE.is("25: of three alike", x.plan(), 28);
        DUE.is("24: two words", x.worth(0, 2), 4);
        DUE.is("25: the fewest words, then the least set", x.plan(), 12);
        DUE.is("24: one word", x.worth(0, 1), 2);
        DUE.is("25: the least of three", x.plan(), 4);
        Desk e = new Desk();
        e.wire.wire(0, 1, 1);
        e.wire.file(e.ranked(Desk.TAKE, 3, 0, 0, 1, 2), 0);
        e.wire.file(e.ranked(Desk.TAKE, 1, 0, 0, 1), 0);
        e.wire.file(e.ranked(Desk.TAKE, 1, 0, 0, 1), 0);
        DUE.is("24: one or two", e.wire.worth(0, 2), 4);
        DUE.is("25: of as many words the least set", e.wire.plan(), 1);
        Desk f = new Desk();
        f.wire.wire(0, 1, 9);
        for (int i = 0; i < 12; i++) {
            f.wire.file(f.ranked(Desk.TAKE, 9, 0, 0, 1, 2, 3, 4, 5, 6, 7, 8, 9, 10, 11, 12), 0);
        }
        DUE.is("24: twelve of twelve", f.wire.worth(0, 16), 120);
        DUE.is("25: all twelve", f.wire.plan(), 4095);
        DUE.is("24: a word short", f.wire.worth(0, 15), 110);
        DUE.is("25: the first eleven", f.wire.plan(), 2047);
        f.rule("rank 2");
        DUE.is("24: all twelve, anew", f.wire.worth(0, 1000), 36);
        DUE.is("25: all twelve, anew", f.wire.plan(), 4095);
        Desk g = new Desk();
        g.wire.wire(0, 1, 3);
        g.wire.file(g.ranked(Desk.TAKE, 5, 0, 0, 1, 2, 3), 0);
        g.wire.file(g.ranked(Desk.TAKE, 8, 0, 0, 1, 2), 0);
        g.wire.file(g.ranked(Desk.TAKE, 2, 0, 0, 1), 0);
        g.wire.file(g.ranked(Desk.TAKE, 1, 0, 0, 1, 2), 0);
        DUE.is("24: a greater set with a greater sum", g.wire.worth(0, 1), 12);
        DUE.is("25: the second and the third", g.wire.plan(), 6);
    }

    private static void counts() {
        Desk d = deskWithWire(1);
        NewsWire x = d.wire;
        d.rule("rank 1");
        d.piece(Desk.TAKE, 0, 0, 1, 2);
        d.piece(Desk.TAKE, 0, 0, 1);
        x.garble(0, 0);
        x.garble(0, 9);
        x.file(0, 0);
        x.run(2);
        d.tape("abc");
        int[] due = {2, 1, 2, 1, 3, 11, 2, 1};
        for (int what = 0; what < due.length; what++) {
            DUE.is("26: count(" + what + ")", x.count(what), due[what]);
        }
        DUE.is("26: what 8", x.count(8), NewsWire.NO);
        DUE.is("26: what -1", x.count(-1), NewsWire.NO);
    }
}
