import java.util.ArrayList;
import java.util.List;

/**
 * A refused call changes nothing but status(): of two objects that were used alike the one makes a call that is refused;
 * then both are asked all that can be asked, used on, and asked again.
 */
public final class RefusedCallTest {
    private static final int CALLS_AT_MOST = 512;
    private static final int FAULTS = -10;
    private static final Due DUE = new Due();

    /**
     * In a text of calls each is a name with its numbers, perhaps a sign = and the answer that is due; what stands behind
     * the word tape, between signs ', is fed to THE TAPE.
     */
    private record Call(String name, int[] told, int answer) {
        static List<Call> all(String text) {
            List<Call> calls = new ArrayList<>();
            for (String line : text.split("[\\n;]")) {
                if (line.contains("tape '")) {
                    addFeeds(calls, line.substring(line.indexOf("'") + 1, line.lastIndexOf("'")));
                } else if (!line.isBlank()) {
                    calls.add(of(line.trim()));
                }
            }
            return calls;
        }

        private static void addFeeds(List<Call> calls, String bytes) {
            for (int at = 0; at < bytes.length(); at += 4) {
                int end = Math.min(at + 4, bytes.length());
                int packed = 0;
                for (int i = at; i < end; i++) {
                    packed = packed << 8 | bytes.charAt(i);
                }
                calls.add(new Call("feed", new int[] {packed, end - at, 0, 0}, end));
            }
        }

        static Call of(String line) {
            String[] sides = line.split(" = ");
            String[] words = sides[0].split(" ");
            int[] told = new int[4];
            for (int i = 1; i < words.length; i++) {
                told[i - 1] = Integer.parseInt(words[i]);
            }
            return new Call(words[0], told, sides.length < 2 ? 0 : Integer.parseInt(sides[1]));
        }

        int on(NewsWire x) {
            return Calls.call(x, name, told[0], told[1], told[2], told[3]);
        }

        String asText() {
            return name + "(" + told[0] + ", " + told[1] + ", " + told[2] + ", " + told[3] + ")";
        }
    }

    private static final String REFUSED_WHEN_NEW = """
        wire -1 1 1 = -3; wire 6 1 1 = -3; wire 0 0 1 = -7; wire 0 256 1 = -7; wire 0 1 0 = -7; wire 0 1 10 = -7
        piece 0 101 0 0 = -2; look 0 0 = -3; word 0 0 = -3
        feed 7 -1 = -4; feed 7 5 = -7; rule 0 0 = -7; rule 0 1 = -10; rule 0 100001 = -7
        holds 0 0 0 = -3; rank 0 = -3; barred 0 0 = -3
        file 0 0 = -3; garble 0 0 = -3; run -1 = -4; run 0 = -7; run 501 = -7
        sent 0 0 0 = -3; since 0 0 = -3; cost 8 = -3; first 8 0 = -3
        text 8 0 0 = -3; text 0 1 0 = -3; text 0 0 4 = -7; read 0 0 0 = -3; from 0 0 0 = -3
        edition 8 = -3; printed 8 0 = -3; printed 0 0 = -2; worth 0 0 = -3; count 8 = -7
        tell 16 1 = -3; tell 0 10000 = -7; lay 0 = -3; row 0 = -2; copy 0 0 0 = -2; status -9 = -7
        """;

    private static final String BUSY = """
        wire 0 3 2; wire 0 133 1; wire 1 255 9
        tell 0 11; tell 1 12; tell 2 13; tell 3 14; tell 4 15
        piece 0 503 0 0; piece 100 402 0 0; piece 200 901 0 1; piece 300 602 0 1; piece 400 701 1 0; piece 500 302 1 6
        piece 1 204 1 0; piece 10 104 0 0
        tape 'rank 8 if kind=1'; rule 1 9
        tape 'cost 3 if paper<1'; rule 0 50
        tape 'bar 2'; rule 2 4
        file 0 0; file 1 0; file 0 1; file 6 2; file 7 1
        garble 0 4; garble 1 2; garble 2 3
        run 3; file 2 0; file 3 0; run 2
        edition 0; edition 7; worth 1 3; file 5 0; file 4 0
        tape 'rank 1 if '
        tear; tell 2 33; tell 15 44
        """;

    private static final String REFUSED_WHEN_BUSY = """
        wire -1 1 1 = -3; wire 6 1 1 = -3; wire 0 0 1 = -7; wire 0 256 1 = -7; wire 0 1 0 = -7; wire 0 1 10 = -7
        piece -1 101 0 0 = -3; piece 80 101 0 0 = -3; piece 6 101 0 0 = -3; piece 200 101 8 0 = -3; piece 400 101 -1 0 = -3
        piece 600 101 0 0 = -7; piece 0 1001 0 0 = -7; piece 0 100 0 0 = -7; piece 0 113 0 0 = -7; piece 0 101 8 0 = -7
        piece 500 101 0 100001 = -7; piece 210 101 0 0 = -5; piece 300 101 4 0 = -5; piece 400 101 4 0 = -5
        piece 200 101 0 4 = -7; piece 300 102 0 2 = -7
        look 8 0 = -3; look 0 7 = -7; look 0 -1 = -7; word 8 0 = -3; word 0 3 = -3; word 0 -1 = -3
        feed 7 -1 = -4; feed 7 5 = -7
        rule 5 5 = -7; rule -1 5 = -7; rule 0 100001 = -7; rule 0 5 = -20
        holds 3 0 0 = -3; holds 0 8 0 = -3; holds 0 0 8 = -3; holds 0 0 -2 = -3; rank 8 = -3; rank -1 = -3
        barred 8 0 = -3; barred 0 8 = -3; barred 0 -1 = -3
        file 8 0 = -3; file 0 3 = -3; file 6 0 = -7; file 0 0 = -7; file 5 0 = -7
        garble 3 9 = -3; garble 0 4 = -7; garble 0 100001 = -7; garble 2 -1 = -7; run -1 = -4; run 0 = -7; run 501 = -7
        sent 8 0 0 = -3; sent 0 3 0 = -3; sent 7 0 0 = -2; sent 0 0 3 = -7; since 8 0 = -3; since 0 8 = -3
        cost 8 = -3; cost -1 = -3; first 8 0 = -3; first 0 8 = -3
        text 8 0 0 = -3; text 0 6 0 = -3; text 0 0 4 = -7; read 0 5 99 = -3; read 0 6 0 = -3; from 0 5 -1 = -3
        edition 8 = -3; edition -1 = -3; printed 8 0 = -3; printed 1 0 = -2; printed 0 4 = -7
        worth 3 1 = -3; worth 0 -1 = -4; worth 0 1001 = -7; count 8 = -7; count -1 = -7
        tell 16 1 = -3; tell -1 1 = -3; tell 0 10000 = -7; tell 0 -1 = -7; lay 8 = -3; lay -1 = -3
        row 16 = -3; row -1 = -3; copy 0 0 -1 = -4; copy -1 0 1 = -6; copy 0 1 16 = -6; copy 1 0 16 = -6; copy 15 0 2 = -6
        status -1 = -7; status -9 = -7
        """;

    private static final String REFUSED_WHEN_FULL = """
        wire 0 1 1 = -8; wire 0 1 0 = -7; wire 6 1 1 = -3
        piece 0 501 0 0 = -8; piece 200 501 0 0 = -8; piece 500 501 0 1 = -8; piece 200 501 0 2 = -7; piece 410 501 0 0 = -5
        feed 7 1 = -8; feed 7 4 = -8; feed 7 5 = -7; feed 7 -1 = -4
        rule 0 5 = -8; rule 5 5 = -7
        file 12 0 = -8; file 0 0 = -7; file 40 0 = -3
        garble 5 40 = -8; garble 0 0 = -7
        """;

    public static void main(String[] args) {
        DUE.sentence("Terms", "A refused call changes nothing but status().");
        states();
        eachRefusal("new", List.of(), REFUSED_WHEN_NEW);
        eachRefusal("busy", Call.all(BUSY), REFUSED_WHEN_BUSY);
        eachRefusal("full", Call.all(full()), REFUSED_WHEN_FULL);
        eachRefusal("a number beyond on the tape", Call.all(BUSY + "wipe; tape 'bar 8'\n"), "rule 0 9 = -7; rule 9 0 = -7");
        eachRefusal("a fault at the end of the tape", Call.all(BUSY + "wipe; tape 'bar'\n"), "rule 0 9 = -13");
        everyCallWithARefusal();
        DUE.end();
    }

    /** That the calls ahead make what their names say. */
    private static void states() {
        int[] busy = {5, 3, 8, 3, 10};
        int[] full = {0, 6, 40, 10, 80, 0, 0, 40};
        NewsWire x = new NewsWire();
        Call.all(BUSY).forEach(call -> call.on(x));
        for (int what = 0; what < busy.length; what++) {
            DUE.is("busy: count(" + what + ")", x.count(what), busy[what]);
        }
        NewsWire y = new NewsWire();
        Call.all(full()).forEach(call -> call.on(y));
        for (int what = 0; what < full.length; what++) {
            DUE.is("full: count(" + what + ")", y.count(what), full[what]);
        }
        for (int by = NewsWire.FULL; by <= NewsWire.MISSING; by++) {
            DUE.is("nothing was refused so far, status(" + by + ")", x.status(by) + y.status(by), 0);
        }
    }

    private static String full() {
        StringBuilder calls = new StringBuilder("tell 0 7\n");
        for (int i = 0; i < 6; i++) {
            calls.append("wire 0 255 ").append(i + 1).append('\n');
        }
        for (int i = 0; i < 40; i++) {
            calls.append("piece 0 ").append(100 * (i % 10) + 1).append(' ').append(i % 8).append(" 0\n");
        }
        for (int i = 0; i < 12; i++) {
            calls.append("file ").append(i).append(" 0\n");
        }
        for (int i = 0; i < 40; i++) {
            calls.append("garble 0 ").append(i).append('\n');
        }
        for (int i = 0; i < 10; i++) {
            calls.append("tape 'cost ").append(i).append("'; rule 0 60\n");
        }
        calls.append("worth 0 7\n");
        calls.append("tape '").append("rank".repeat(20)).append("'\n");
        return calls.toString();
    }

    /** All that can be asked; what is refused is so for both objects, and counted for both. */
    private static String questions(int tick) {
        StringBuilder asked = new StringBuilder("plan\n");
        for (int i = 0; i < 8; i++) {
            asked.append("count ").append(i).append("; cost ").append(i).append("; row ").append(2 * i).append('\n');
            asked.append("look ").append(i).append(" 0; word ").append(i).append(" 0; rank ").append(i).append('\n');
            asked.append("since ").append(i).append(" 0; sent ").append(i).append(" 0 0; sent ").append(i).append(" 0 2\n");
            asked.append("sent ").append(i).append(" 1 0; barred 0 ").append(i).append('\n');
        }
        for (int what = 0; what < 4; what++) {
            asked.append("text 0 ").append(tick).append(' ').append(what).append("; printed 0 ").append(what)
                    .append("; holds ").append(what).append(" 0 1; read 0 ").append(tick).append(' ').append(what)
                    .append("; from 0 ").append(tick).append(' ').append(what).append("; row ").append(2 * what + 9)
                    .append("; printed 7 ").append(what).append('\n');
        }
        return asked.append("first 0 0; first 1 7\n").toString();
    }

    private static List<Call> afterwards(int tick) {
        String usedOn = """
            tape 'kind=0'; rule 0 90; wipe
            wire 0 1 1; piece 0 901 0 0; lay 0; piece 1 201 1 0; file 8 0; file 12 0; file 9 2; garble 0 42; run 2; run 41
            edition 0; tell 0 5; copy 0 1 1; feed 7 4; worth 0 2
            """;
        return Call.all(questions(tick) + usedOn + questions(tick + 43));
    }

    private static void eachRefusal(String state, List<Call> before, String refused) {
        for (Call call : Call.all(refused)) {
            NewsWire twin = new NewsWire();
            NewsWire other = new NewsWire();
            for (Call made : before) {
                made.on(twin);
                made.on(other);
            }
            List<Call> after = afterwards(twin.count(0));
            other.count(0);
            String what = state + ", " + call.asText();
            DUE.is(what, call.on(twin), call.answer);
            for (Call made : after) {
                DUE.is(what + ", then " + made.asText(), made.on(twin), made.on(other));
            }
            for (int by = NewsWire.FULL; by <= NewsWire.MISSING; by++) {
                int more = call.answer > FAULTS && by == call.answer ? 1 : 0;
                DUE.is(what + ", then status(" + by + ")", twin.status(by), other.status(by) + more);
            }
            DUE.so("no more calls than the document tells of", before.size() + after.size() + 9 <= CALLS_AT_MOST);
        }
    }

    private static void everyCallWithARefusal() {
        List<Call> refused = Call.all(REFUSED_WHEN_NEW + REFUSED_WHEN_BUSY + REFUSED_WHEN_FULL);
        List<String> never = List.of("wipe", "plan", "tear");
        for (String name : Calls.NAMES) {
            boolean found = refused.stream().anyMatch(call -> call.name.equals(name));
            DUE.so(name + " is among them, unless it has no refusal", found != never.contains(name));
        }
    }
}
