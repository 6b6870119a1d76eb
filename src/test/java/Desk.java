/** A NewsWire with shorter ways to tell it pieces and rules. */
final class Desk {
    static final int TAKE = 0;
    static final int LEAD = 1;
    static final int INSERT = 2;
    static final int CORRECT = 3;
    static final int KILL = 4;
    static final int HELD = 5;

    final NewsWire wire = new NewsWire();

    /** Lays just these numbers at the head of a new ROW. */
    void row(int... numbers) {
        wire.tear();
        wire.tell(0, 0);
        for (int i = 0; i < numbers.length; i++) {
            wire.tell(i, numbers[i]);
        }
    }

    /** A PIECE of rank 5, story and bureau 0. */
    int piece(int kind, int x, int y, int... words) {
        return ranked(kind, 5, x, y, words);
    }

    int ranked(int kind, int rank, int x, int y, int... words) {
        row(words);
        return wire.piece(100 * kind, 100 * rank + words.length, x, y);
    }

    /** Puts a text on THE TAPE, byte by byte. */
    void tape(String text) {
        wire.wipe();
        for (int i = 0; i < text.length(); i++) {
            wire.feed(text.charAt(i), 1);
        }
    }

    int rule(String text, int from, int to) {
        tape(text);
        return wire.rule(from, to);
    }

    int rule(String text) {
        return rule(text, 0, 100000);
    }

    /** Files a PIECE and lets as many ticks go by as it takes. */
    void send(int piece, int by) {
        wire.file(piece, by);
        while (wire.sent(piece, by, 2) != NewsWire.NONE) {
            wire.run(1);
        }
    }

    /** The words of a TEXT, with blanks between. */
    String text(int told, int tick) {
        StringBuilder words = new StringBuilder();
        for (int i = 0; i < wire.text(told, tick, 0); i++) {
            words.append(i == 0 ? "" : " ").append(wire.read(told, tick, i));
        }
        return words.toString();
    }

    /** The PIECES that brought the words of a TEXT, with blanks between. */
    String from(int told, int tick) {
        StringBuilder pieces = new StringBuilder();
        for (int i = 0; i < wire.text(told, tick, 0); i++) {
            pieces.append(i == 0 ? "" : " ").append(wire.from(told, tick, i));
        }
        return pieces.toString();
    }
}
