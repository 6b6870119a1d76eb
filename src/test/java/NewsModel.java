import java.util.ArrayList;
import java.util.Arrays;
import java.util.List;
import java.util.Map;
import java.util.TreeMap;
import java.util.TreeSet;
import java.util.regex.Matcher;
import java.util.regex.Pattern;

/**
 * What the document says, in the plainest way and without any regard for cost: it keeps all that ever happened and
 * looks it up anew for each question. ModelTest holds NewsWire against it.
 */
final class NewsModel {
    private static final String NUMBER = "[0-9]{1,4}";
    private static final String TEST = "(kind|story|bureau|words|paper)([=<>])(" + NUMBER + ")";
    private static final Pattern RULE = Pattern.compile(
            "(rank|bar|cost) (" + NUMBER + ")(?: if " + TEST + "(?: and " + TEST + "(?: and " + TEST + ")?)?)?",
            Pattern.DOTALL);

    record Wire(int bureau, int papers, int speed) { }

    record Piece(int kind, int story, int bureau, int rank, List<Integer> words, int x, int y) { }

    record Rule(String key, int number, List<String[]> tests, int from, int to) { }

    record Filing(int piece, int wire) { }

    /** A word that was heard, with how many rules there were then: later ones don't change what was. */
    record Heard(int piece, int wire, int tick, int rules) { }

    record Word(int word, int piece) { }

    record Edition(int tick, List<Word> words) { }

    private final List<Wire> wires = new ArrayList<>();
    private final List<Piece> pieces = new ArrayList<>();
    private final List<Rule> rules = new ArrayList<>();
    private final StringBuilder tape = new StringBuilder();
    private final List<Filing> filings = new ArrayList<>();
    private final List<Heard> heard = new ArrayList<>();
    private final TreeSet<Long> garbled = new TreeSet<>();
    private final Map<Integer, Edition> editions = new TreeMap<>();
    private final int[] refused = new int[9];
    private List<Integer> row;
    private int open;
    private int sent;
    private int plan;

    /** The answer of the call of this name, with as many of the numbers as it takes. */
    int call(String name, int a, int b, int c, int d) {
        int answer = switch (name) {
            case "wire" -> wire(a, b, c);
            case "piece" -> piece(a, b, c, d);
            case "look" -> look(a, b);
            case "word" -> !isPiece(a) || b < 0 || b >= pieces.get(a).words.size() ? -3 : pieces.get(a).words.get(b);
            case "feed" -> feed(a, b);
            case "wipe" -> wipe();
            case "rule" -> rule(a, b);
            case "holds" -> a < 0 || a >= rules.size() || !isPiece(b) || c != -1 && !isPaper(c) ? -3
                    : holds(rules.get(a), pieces.get(b), c, open) ? 1 : 0;
            case "rank" -> isPiece(a) ? rankIn(a, open) : -3;
            case "barred" -> isPiece(a) && isPaper(b) ? barredIn(a, b, open, rules.size()) ? 1 : 0 : -3;
            case "file" -> file(a, b);
            case "garble" -> garble(a, b);
            case "run" -> run(a);
            case "sent" -> sent(a, b, c);
            case "since" -> isPiece(a) && isPaper(b) ? sinceOf(a, b) : -3;
            case "cost" -> isPaper(a) ? costOf(a) : -3;
            case "first" -> first(a, b);
            case "text" -> text(a, b, c);
            case "read" -> placed(a, b, c) == null ? -3 : placed(a, b, c).word;
            case "from" -> placed(a, b, c) == null ? -3 : placed(a, b, c).piece;
            case "edition" -> edition(a);
            case "printed" -> printed(a, b);
            case "worth" -> worth(a, b);
            case "plan" -> plan;
            case "count" -> count(a);
            case "tell" -> tell(a, b);
            case "lay" -> lay(a);
            case "tear" -> tear();
            case "row" -> row == null ? -2 : a < 0 || a >= row.size() ? -3 : row.get(a);
            case "copy" -> copy(a, b, c);
            case "status" -> a < -8 || a > -2 ? -7 : refused[-a];
            default -> throw new IllegalArgumentException(name);
        };
        if (answer <= -2 && answer >= -8) {
            refused[-answer]++;
        }
        return answer;
    }

    private boolean isPiece(int i) {
        return i >= 0 && i < pieces.size();
    }

    private boolean isWire(int i) {
        return i >= 0 && i < wires.size();
    }

    private static boolean isPaper(int i) {
        return i >= 0 && i <= 7;
    }

    private int wire(int bureau, int papers, int speed) {
        if (bureau < 0 || bureau > 5) {
            return -3;
        }
        if (papers < 1 || papers > 255 || speed < 1 || speed > 9) {
            return -7;
        }
        if (wires.size() == 6) {
            return -8;
        }
        wires.add(new Wire(bureau, papers, speed));
        return wires.size() - 1;
    }

    private int piece(int told, int rank, int x, int y) {
        if (row == null) {
            return -2;
        }
        int kind = told / 100;
        int story = told % 100 / 10;
        int bureau = told % 10;
        boolean points = kind == 2 || kind == 3 || kind == 4;
        if (told < 0 || story > 7 || bureau > 5 || points && !isPiece(x)) {
            return -3;
        }
        int n = rank % 100;
        if (kind > 5 || rank < 0 || rank > 999 || n < 1 || n > 12 || n > row.size()) {
            return -7;
        }
        if ((kind == 0 || kind == 5) && (x < 0 || x > 7)) {
            return -7;
        }
        if (kind == 5 && (y < 0 || y > 100000)) {
            return -7;
        }
        if (points) {
            Piece at = pieces.get(x);
            List<Integer> kinds = kind == 4 ? List.of(0, 1, 2, 3, 5) : List.of(0, 1, 5);
            if (!kinds.contains(at.kind) || at.story != story) {
                return -5;
            }
            if (kind == 2 && (y < 0 || y > at.words.size())) {
                return -7;
            }
            if (kind == 3 && (y < 0 || (long) y + n > at.words.size())) {
                return -7;
            }
        }
        if (pieces.size() == 40) {
            return -8;
        }
        pieces.add(new Piece(kind, story, bureau, rank / 100, List.copyOf(row.subList(0, n)), x, y));
        return pieces.size() - 1;
    }

    private int look(int piece, int what) {
        if (!isPiece(piece)) {
            return -3;
        }
        Piece p = pieces.get(piece);
        return switch (what) {
            case 0 -> p.kind;
            case 1 -> p.story;
            case 2 -> p.bureau;
            case 3 -> p.rank;
            case 4 -> p.words.size();
            case 5 -> p.kind == 1 ? -1 : p.x;
            case 6 -> p.kind == 0 || p.kind == 1 || p.kind == 4 ? -1 : p.y;
            default -> -7;
        };
    }

    private int feed(int bytes, int n) {
        if (n < 0) {
            return -4;
        }
        if (n > 4) {
            return -7;
        }
        if (tape.length() + n > 80) {
            return -8;
        }
        for (int i = n - 1; i >= 0; i--) {
            tape.append((char) (bytes >> 8 * i & 255));
        }
        return tape.length();
    }

    private int wipe() {
        int had = tape.length();
        tape.setLength(0);
        return had;
    }

    /** The place of the first byte with which no rule begins so, or -1. */
    private int fault() {
        if (RULE.matcher(tape).matches()) {
            return -1;
        }
        for (int i = 1; i <= tape.length(); i++) {
            Matcher m = RULE.matcher(tape.substring(0, i));
            if (!m.matches() && !m.hitEnd()) {
                return i - 1;
            }
        }
        return tape.length();
    }

    private int rule(int from, int to) {
        if (from < 0 || from > 100000 || to < 0 || to > 100000 || from >= to) {
            return -7;
        }
        if (rules.size() == 10) {
            return -8;
        }
        int fault = fault();
        if (fault >= 0) {
            return -10 - fault;
        }
        Matcher m = RULE.matcher(tape);
        if (!m.matches()) {
            throw new IllegalStateException(tape.toString());
        }
        int number = Integer.parseInt(m.group(2));
        if (number > (m.group(1).equals("bar") ? 7 : 9)) {
            return -7;
        }
        List<String[]> tests = new ArrayList<>();
        for (int g = 3; g <= 9; g += 3) {
            if (m.group(g) != null) {
                tests.add(new String[] {m.group(g), m.group(g + 1), m.group(g + 2)});
            }
        }
        rules.add(new Rule(m.group(1), number, tests, from, to));
        tape.setLength(0);
        return rules.size() - 1;
    }

    private static boolean holds(Rule rule, Piece p, int paper, int tick) {
        if (tick < rule.from || tick >= rule.to) {
            return false;
        }
        for (String[] test : rule.tests) {
            if (test[0].equals("paper") && paper == -1) {
                return false;
            }
            int value = switch (test[0]) {
                case "kind" -> p.kind;
                case "story" -> p.story;
                case "bureau" -> p.bureau;
                case "words" -> p.words.size();
                default -> paper;
            };
            int sign = Integer.signum(Integer.compare(value, Integer.parseInt(test[2])));
            if (sign != "<=>".indexOf(test[1]) - 1) {
                return false;
            }
        }
        return true;
    }

    private int rankIn(int piece, int tick) {
        int rank = pieces.get(piece).rank;
        for (Rule r : rules) {
            if (r.key.equals("rank") && holds(r, pieces.get(piece), -1, tick)) {
                rank = r.number;
            }
        }
        return rank;
    }

    private int priceOf(Heard h, int paper) {
        int price = 1;
        for (Rule r : rules.subList(0, h.rules)) {
            if (r.key.equals("cost") && holds(r, pieces.get(h.piece), paper, h.tick)) {
                price = r.number;
            }
        }
        return price;
    }

    private boolean barredIn(int piece, int paper, int tick, int first) {
        return rules.subList(0, first).stream().anyMatch(r -> r.key.equals("bar") && r.number == paper
                && holds(r, pieces.get(piece), paper, tick));
    }

    private List<Heard> heardOf(int piece, int wire) {
        return heard.stream().filter(h -> h.piece == piece && h.wire == wire).toList();
    }

    private boolean isDone(int piece, int wire) {
        return heardOf(piece, wire).size() == pieces.get(piece).words.size();
    }

    private List<Integer> waiting(int wire) {
        return filings.stream().filter(f -> f.wire == wire && !isDone(f.piece, wire)).map(f -> f.piece).toList();
    }

    private int file(int piece, int wire) {
        if (!isPiece(piece) || !isWire(wire)) {
            return -3;
        }
        if (pieces.get(piece).bureau != wires.get(wire).bureau || filings.contains(new Filing(piece, wire))) {
            return -7;
        }
        if (waiting(wire).size() == 12) {
            return -8;
        }
        filings.add(new Filing(piece, wire));
        return waiting(wire).size();
    }

    private static long garbleKey(int wire, int tick) {
        return 10L * tick + wire;
    }

    private int garbles() {
        return garbled.tailSet(garbleKey(0, open)).size();
    }

    private int garble(int wire, int tick) {
        if (!isWire(wire)) {
            return -3;
        }
        if (tick < open || tick > 100000 || garbled.contains(garbleKey(wire, tick))) {
            return -7;
        }
        if (garbles() == 40) {
            return -8;
        }
        garbled.add(garbleKey(wire, tick));
        return garbles();
    }

    private int run(int n) {
        if (n < 0) {
            return -4;
        }
        if (n == 0 || n > 500) {
            return -7;
        }
        int before = heard.size();
        for (int i = 0; i < n; i++) {
            for (int w = 0; w < wires.size(); w++) {
                for (int s = 0; s < wires.get(w).speed; s++) {
                    sendOne(w);
                }
            }
            open++;
        }
        return heard.size() - before;
    }

    private void sendOne(int wire) {
        int best = -1;
        for (int piece : waiting(wire)) {
            if (best == -1 || rankIn(piece, open) > rankIn(best, open)) {
                best = piece;
            }
        }
        if (best == -1) {
            return;
        }
        sent++;
        if (!garbled.contains(garbleKey(wire, open))) {
            heard.add(new Heard(best, wire, open, rules.size()));
        }
    }

    private int doneIn(int piece, int wire) {
        return isDone(piece, wire) ? lastOf(piece, wire).tick : -1;
    }

    private Heard lastOf(int piece, int wire) {
        List<Heard> all = heardOf(piece, wire);
        return all.get(all.size() - 1);
    }

    private boolean barred(Heard h, int paper) {
        return barredIn(h.piece, paper, h.tick, h.rules);
    }

    private int sent(int piece, int wire, int what) {
        if (!isPiece(piece) || !isWire(wire)) {
            return -3;
        }
        if (!filings.contains(new Filing(piece, wire))) {
            return -2;
        }
        return switch (what) {
            case 0 -> heardOf(piece, wire).size();
            case 1 -> doneIn(piece, wire);
            case 2 -> waiting(wire).indexOf(piece);
            default -> -7;
        };
    }

    private boolean goesTo(int wire, int paper) {
        return (wires.get(wire).papers & 1 << paper) != 0;
    }

    private int sinceOf(int piece, int paper) {
        int since = -1;
        for (int w = 0; w < wires.size(); w++) {
            int done = doneIn(piece, w);
            if (done >= 0 && goesTo(w, paper) && !barred(lastOf(piece, w), paper) && (since < 0 || done < since)) {
                since = done;
            }
        }
        return since;
    }

    private int costOf(int paper) {
        return heard.stream().filter(h -> goesTo(h.wire, paper) && !barred(h, paper))
                .mapToInt(h -> priceOf(h, paper)).sum();
    }

    private int first(int story, int paper) {
        if (story < 0 || story > 7 || !isPaper(paper)) {
            return -3;
        }
        int first = -1;
        for (int p = 0; p < pieces.size(); p++) {
            int since = sinceOf(p, paper);
            if (pieces.get(p).story == story && since >= 0 && (first < 0 || since < first)) {
                first = since;
            }
        }
        return first;
    }

    /** The pieces of a story that are there for a text. */
    private List<Integer> there(int story, int paper, int tick) {
        List<Integer> had = new ArrayList<>();
        for (int p = 0; p < pieces.size(); p++) {
            int since = sinceOf(p, paper);
            if (pieces.get(p).story == story && since >= 0 && since <= tick) {
                had.add(p);
            }
        }
        List<Integer> there = new ArrayList<>(had);
        for (int p : had) {
            if (pieces.get(p).kind == 4) {
                there.remove((Integer) pieces.get(p).x);
            }
        }
        there.removeIf(p -> pieces.get(p).kind == 5 && tick < pieces.get(p).y);
        return there;
    }

    private int leadOf(List<Integer> there) {
        return there.stream().filter(p -> pieces.get(p).kind == 1).mapToInt(p -> p).max().orElse(-1);
    }

    private int partOf(List<Integer> there, int part) {
        return there.stream().filter(p -> (pieces.get(p).kind == 0 || pieces.get(p).kind == 5)
                && pieces.get(p).x == part).mapToInt(p -> p).max().orElse(-1);
    }

    private int partsOf(List<Integer> there) {
        int parts = 0;
        while (parts < 8 && partOf(there, parts) >= 0) {
            parts++;
        }
        return parts;
    }

    private int gapOf(List<Integer> there) {
        int parts = partsOf(there);
        for (int later = parts + 1; later < 8; later++) {
            if (partOf(there, later) >= 0) {
                return parts;
            }
        }
        return -1;
    }

    private List<Word> whole(List<Integer> there, int base) {
        List<List<Word>> slots = new ArrayList<>();
        Piece p = pieces.get(base);
        for (int i = 0; i < p.words.size(); i++) {
            slots.add(new ArrayList<>(List.of(new Word(p.words.get(i), base))));
        }
        slots.add(new ArrayList<>());
        for (int c : there) {
            Piece correct = pieces.get(c);
            if (correct.kind == 3 && correct.x == base) {
                for (int i = 0; i < correct.words.size(); i++) {
                    slots.get(correct.y + i).set(0, new Word(correct.words.get(i), c));
                }
            }
        }
        for (int k = there.size() - 1; k >= 0; k--) {
            Piece insert = pieces.get(there.get(k));
            if (insert.kind == 2 && insert.x == base) {
                for (int i = insert.words.size() - 1; i >= 0; i--) {
                    slots.get(insert.y).add(0, new Word(insert.words.get(i), there.get(k)));
                }
            }
        }
        return slots.stream().flatMap(List::stream).toList();
    }

    private List<Word> textOf(int story, int paper, int tick) {
        List<Integer> there = there(story, paper, tick);
        List<Word> text = new ArrayList<>();
        if (leadOf(there) >= 0) {
            text.addAll(whole(there, leadOf(there)));
        }
        for (int part = 0; part < partsOf(there); part++) {
            text.addAll(whole(there, partOf(there, part)));
        }
        return text;
    }

    private boolean isText(int told, int tick) {
        return told >= 0 && told < 80 && told % 10 < 8 && tick >= 0 && tick <= open;
    }

    private int text(int told, int tick, int what) {
        if (!isText(told, tick)) {
            return -3;
        }
        List<Integer> there = there(told / 10, told % 10, tick);
        return switch (what) {
            case 0 -> textOf(told / 10, told % 10, tick).size();
            case 1 -> gapOf(there);
            case 2 -> leadOf(there);
            case 3 -> partsOf(there);
            default -> -7;
        };
    }

    private Word placed(int told, int tick, int i) {
        if (!isText(told, tick)) {
            return null;
        }
        List<Word> text = textOf(told / 10, told % 10, tick);
        return i < 0 || i >= text.size() ? null : text.get(i);
    }

    private int edition(int paper) {
        if (!isPaper(paper)) {
            return -3;
        }
        List<Word> words = new ArrayList<>();
        for (int story = 0; story < 8; story++) {
            words.addAll(textOf(story, paper, open));
        }
        editions.put(paper, new Edition(open, words));
        return words.size();
    }

    private List<Integer> behind(int paper) {
        List<Integer> behind = new ArrayList<>();
        Edition e = editions.get(paper);
        for (int p = 0; p < pieces.size(); p++) {
            Piece piece = pieces.get(p);
            boolean late = (piece.kind == 3 || piece.kind == 4) && sinceOf(p, paper) >= e.tick;
            if (late && e.words.stream().anyMatch(w -> w.piece == piece.x)) {
                behind.add(p);
            }
        }
        return behind;
    }

    private int printed(int paper, int what) {
        if (!isPaper(paper)) {
            return -3;
        }
        if (!editions.containsKey(paper)) {
            return -2;
        }
        return switch (what) {
            case 0 -> editions.get(paper).tick;
            case 1 -> editions.get(paper).words.size();
            case 2 -> behind(paper).size();
            case 3 -> behind(paper).isEmpty() ? -1 : behind(paper).get(0);
            default -> -7;
        };
    }

    private int worth(int wire, int n) {
        if (!isWire(wire)) {
            return -3;
        }
        if (n < 0) {
            return -4;
        }
        if (n > 1000) {
            return -7;
        }
        List<Integer> waiting = waiting(wire);
        int[] best = {-1, 0, 0};
        for (int set = 0; set < 1 << waiting.size(); set++) {
            int sum = 0;
            int words = 0;
            for (int i = 0; i < waiting.size(); i++) {
                if ((set >> i & 1) == 1) {
                    int piece = waiting.get(i);
                    sum += rankIn(piece, open) + 1;
                    words += pieces.get(piece).words.size() - heardOf(piece, wire).size();
                }
            }
            boolean fits = words <= wires.get(wire).speed * n;
            if (fits && (sum > best[0] || sum == best[0] && words < best[1])) {
                best = new int[] {sum, words, set};
            }
        }
        plan = best[2];
        return best[0];
    }

    private int count(int what) {
        return switch (what) {
            case 0 -> open;
            case 1 -> wires.size();
            case 2 -> pieces.size();
            case 3 -> rules.size();
            case 4 -> tape.length();
            case 5 -> sent;
            case 6 -> heard.size();
            case 7 -> garbles();
            default -> -7;
        };
    }

    private int tell(int i, int v) {
        if (i < 0 || i >= (row == null ? 16 : row.size())) {
            return -3;
        }
        if (v < 0 || v > 9999) {
            return -7;
        }
        if (row == null) {
            row = new ArrayList<>(java.util.Collections.nCopies(16, 0));
        }
        row.set(i, v);
        return 1;
    }

    private int lay(int piece) {
        if (!isPiece(piece)) {
            return -3;
        }
        row = new ArrayList<>(pieces.get(piece).words);
        return row.size();
    }

    private int tear() {
        int was = row == null ? 0 : 1;
        row = null;
        return was;
    }

    private int copy(int i, int j, int n) {
        if (row == null) {
            return -2;
        }
        if (n < 0) {
            return -4;
        }
        if (i < 0 || j < 0 || (long) i + n > row.size() || (long) j + n > row.size()) {
            return -6;
        }
        Integer[] were = row.toArray(new Integer[0]);
        Integer[] moved = were.clone();
        for (int k = 0; k < n; k++) {
            moved[j + k] = were[i + k];
        }
        row = new ArrayList<>(Arrays.asList(moved));
        return n;
    }
}
