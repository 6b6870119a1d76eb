/** The calls of NewsWire by their names. */
final class Calls {
    /** Each call with how many numbers it takes. */
    static final String[] NAMES = {
        "wire", "piece", "look", "word", "feed", "wipe", "rule", "holds", "rank", "barred", "file", "garble", "run",
        "sent", "since", "cost", "first", "text", "read", "from", "edition", "printed", "worth", "plan", "count",
        "tell", "lay", "tear", "row", "copy", "status",
    };

    private Calls() {
    }

    static int call(NewsWire x, String name, int a, int b, int c, int d) {
        return switch (name) {
            case "wire" -> x.wire(a, b, c);
            case "piece" -> x.piece(a, b, c, d);
            case "look" -> x.look(a, b);
            case "word" -> x.word(a, b);
            case "feed" -> x.feed(a, b);
            case "wipe" -> x.wipe();
            case "rule" -> x.rule(a, b);
            case "holds" -> x.holds(a, b, c);
            case "rank" -> x.rank(a);
            case "barred" -> x.barred(a, b);
            case "file" -> x.file(a, b);
            case "garble" -> x.garble(a, b);
            case "run" -> x.run(a);
            case "sent" -> x.sent(a, b, c);
            case "since" -> x.since(a, b);
            case "cost" -> x.cost(a);
            case "first" -> x.first(a, b);
            case "text" -> x.text(a, b, c);
            case "read" -> x.read(a, b, c);
            case "from" -> x.from(a, b, c);
            case "edition" -> x.edition(a);
            case "printed" -> x.printed(a, b);
            case "worth" -> x.worth(a, b);
            case "plan" -> x.plan();
            case "count" -> x.count(a);
            case "tell" -> x.tell(a, b);
            case "lay" -> x.lay(a);
            case "tear" -> x.tear();
            case "row" -> x.row(a);
            case "copy" -> x.copy(a, b, c);
            case "status" -> x.status(a);
            default -> throw new IllegalArgumentException(name);
        };
    }
}
