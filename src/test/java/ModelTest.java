import java.util.Random;
import java.util.TreeMap;

/** Long runs of calls, mostly sensible ones, each held against NewsModel. The runs are the same each time. */
public final class ModelTest {
    private static final int RUNS = 400;
    private static final int CALLS = 512;
    private static final int[] EDGES = {-2, -1, 0, 1, 7, 8, 12, 13, 39, 40, 80, 100000, 100001,
        Integer.MIN_VALUE, Integer.MAX_VALUE, Integer.MAX_VALUE - 1};
    private static final String[] FIELDS = {"kind", "story", "bureau", "words", "paper"};

    private final Due due;
    private final TreeMap<String, Integer> answered;
    private final Random random;
    private final NewsWire real = new NewsWire();
    private final NewsModel model = new NewsModel();
    private final StringBuilder calls = new StringBuilder();
    /** Few stories, bureaus and parts make much come together. */
    private final int stories;
    private final int bureaus;
    private final int parts;
    private int left = CALLS;

    private ModelTest(int run, Due due, TreeMap<String, Integer> answered) {
        this.due = due;
        this.answered = answered;
        random = new Random(run);
        stories = 1 + random.nextInt(3);
        bureaus = 1 + random.nextInt(2);
        parts = 2 + random.nextInt(4);
    }

    public static void main(String[] args) {
        Due due = new Due();
        TreeMap<String, Integer> answered = new TreeMap<>();
        for (int run = 0; run < RUNS && due.wrong() == 0; run++) {
            new ModelTest(run, due, answered).run(run);
        }
        for (String name : Calls.NAMES) {
            int accepted = answered.getOrDefault(name, 0);
            due.so(name + " was answered and not refused often enough: " + accepted, accepted >= 100);
        }
        due.end();
    }

    private void run(int run) {
        for (int i = 0; i < 4; i++) {
            call("wire", random.nextInt(bureaus), 1 + random.nextInt(255), 1 + random.nextInt(9), 0);
        }
        while (left > 0 && due.wrong() == 0) {
            step();
        }
        if (due.wrong() != 0) {
            System.out.println("run " + run + ":\n" + calls);
        }
    }

    private int call(String name, int a, int b, int c, int d) {
        if (left <= 0) {
            return 0;
        }
        left--;
        String told = name + "(" + a + ", " + b + ", " + c + ", " + d + ")";
        int got = Calls.call(real, name, a, b, c, d);
        due.is(told, got, model.call(name, a, b, c, d));
        calls.append(told).append(" = ").append(got).append('\n');
        if (got >= -1) {
            answered.merge(name, 1, Integer::sum);
        }
        return got;
    }

    private void step() {
        switch (random.nextInt(12)) {
            case 0, 1 -> newPiece();
            case 2 -> newRule();
            case 3, 4 -> fileSome();
            case 5 -> call("run", random.nextInt(8) == 0 ? random.nextInt(502) : 1 + random.nextInt(4), 0, 0, 0);
            case 6 -> call("garble", anyWire(), now() + random.nextInt(5) - 1, 0, 0);
            case 7 -> readText();
            case 8 -> printSome();
            case 9 -> changeRow();
            case 10 -> anyCall();
            default -> askSome();
        }
    }

    private int now() {
        return real.count(0);
    }

    private int anyPiece() {
        return random.nextInt(Math.max(1, real.count(2)));
    }

    private int anyWire() {
        return random.nextInt(Math.max(1, real.count(1)));
    }

    private int anyPaper() {
        return random.nextInt(8);
    }

    private void newPiece() {
        int words = 1 + random.nextInt(random.nextBoolean() ? 3 : 12);
        call("tear", 0, 0, 0, 0);
        for (int i = 0; i < Math.min(words, 3); i++) {
            call("tell", i, random.nextInt(10000), 0, 0);
        }
        int kind = random.nextInt(6);
        int x = kind == 0 || kind == 5 ? random.nextInt(parts) : anyPiece();
        int y = kind == 5 ? now() + random.nextInt(20) : random.nextInt(4);
        int told = 100 * kind + 10 * random.nextInt(stories) + random.nextInt(bureaus);
        call("piece", told, 100 * random.nextInt(10) + words, x, y);
    }

    private void newRule() {
        StringBuilder text = new StringBuilder();
        text.append(new String[] {"rank ", "bar ", "cost "}[random.nextInt(3)]).append(random.nextInt(11));
        int tests = random.nextInt(5);
        for (int i = 0; i < tests; i++) {
            text.append(i == 0 ? " if " : " and ").append(FIELDS[random.nextInt(5)])
                    .append("=<>".charAt(random.nextInt(3))).append(random.nextInt(6));
        }
        if (random.nextInt(6) == 0) {
            text.setCharAt(random.nextInt(text.length()), "a 1=fx".charAt(random.nextInt(6)));
        }
        if (random.nextInt(12) == 0) {
            text.setLength(random.nextInt(text.length()));
        }
        feed(text.toString());
        int from = random.nextInt(3) == 0 ? 0 : now() + random.nextInt(3);
        if (call("rule", from, from + random.nextInt(random.nextBoolean() ? 30 : 100000), 0, 0) < 0) {
            call("wipe", 0, 0, 0, 0);
        }
    }

    private void feed(String text) {
        for (int at = 0; at < text.length(); at += 4) {
            int end = Math.min(at + 4, text.length());
            int bytes = random.nextInt();
            for (int i = at; i < end; i++) {
                bytes = bytes << 8 | text.charAt(i);
            }
            call("feed", bytes, end - at, 0, 0);
        }
    }

    private void fileSome() {
        for (int i = 0; i < 3; i++) {
            call("file", anyPiece(), anyWire(), 0, 0);
        }
    }

    private int anyTick() {
        return Math.max(0, random.nextInt(4) == 0 ? random.nextInt(now() + 2) : now() - random.nextInt(6));
    }

    private void readText() {
        int told = 10 * random.nextInt(stories) + anyPaper();
        int tick = anyTick();
        int words = call("text", told, tick, 0, 0);
        call("text", told, tick, 1 + random.nextInt(3), 0);
        for (int i = 0; i <= 4; i++) {
            int place = random.nextInt(words < 0 ? 1 : words + 1);
            call(random.nextBoolean() ? "read" : "from", told, tick, place, 0);
        }
    }

    private void printSome() {
        int paper = anyPaper();
        if (random.nextInt(3) == 0) {
            call("edition", paper, 0, 0, 0);
        }
        call("printed", paper, random.nextInt(5), 0, 0);
        call("printed", paper, 2 + random.nextInt(2), 0, 0);
    }

    private void changeRow() {
        switch (random.nextInt(4)) {
            case 0 -> call("lay", anyPiece(), 0, 0, 0);
            case 1 -> call("tell", random.nextInt(17), random.nextInt(10002), 0, 0);
            default -> call("copy", random.nextInt(12), random.nextInt(12), random.nextInt(7) - 1, 0);
        }
        call("row", random.nextInt(16), 0, 0, 0);
    }

    private void askSome() {
        switch (random.nextInt(13)) {
            case 0 -> call("look", anyPiece(), random.nextInt(8), 0, 0);
            case 1 -> call("word", anyPiece(), random.nextInt(5), 0, 0);
            case 2 -> call("holds", random.nextInt(10), anyPiece(), anyPaper() - 1, 0);
            case 3 -> call("rank", anyPiece(), 0, 0, 0);
            case 4 -> call("barred", anyPiece(), anyPaper(), 0, 0);
            case 5 -> call("sent", anyPiece(), anyWire(), random.nextInt(3), 0);
            case 6 -> call("since", anyPiece(), anyPaper(), 0, 0);
            case 7 -> call("cost", anyPaper(), 0, 0, 0);
            case 8 -> call("first", random.nextInt(stories), anyPaper(), 0, 0);
            case 9, 10 -> call("worth", anyWire(), random.nextInt(6), 0, 0);
            case 11 -> call("count", random.nextInt(8), 0, 0, 0);
            default -> call("status", -2 - random.nextInt(7), 0, 0, 0);
        }
        call("plan", 0, 0, 0, 0);
    }

    private int anyNumber() {
        return random.nextInt(3) == 0 ? EDGES[random.nextInt(EDGES.length)] : random.nextInt(10);
    }

    private void anyCall() {
        String name = Calls.NAMES[random.nextInt(Calls.NAMES.length)];
        call(name, anyNumber(), anyNumber(), anyNumber(), anyNumber());
    }
}
