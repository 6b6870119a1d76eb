import java.util.TreeSet;

/** Holds answers against those that are due, and prints each that is not as due. */
final class Due {
    private final Document document = new Document();
    private final TreeSet<String> parts = new TreeSet<>();
    private String sentence = "";
    private int askedBefore;
    private int asked;
    private int wrong;

    /**
     * What is asked from here on is a test of these words in a part of the document ("Promise 3", or "Terms"). That they
     * stand there is held against the document itself.
     */
    void sentence(String part, String words) {
        closeSentence();
        parts.add(part);
        sentence = part + " '" + words + "': ";
        so("these words stand in the document", document.has(part, words));
        askedBefore = asked;
    }

    private void closeSentence() {
        if (!sentence.isEmpty() && asked == askedBefore) {
            so("something is asked of these words", false);
        }
        sentence = "";
    }

    void is(String call, long got, long want) {
        asked++;
        if (got != want) {
            wrong++;
            System.out.println(sentence + call + " answered " + got + ", due is " + want);
        }
    }

    void is(String what, String got, String want) {
        so(what + ": '" + got + "', due is '" + want + "'", got.equals(want));
    }

    void so(String what, boolean holds) {
        asked++;
        if (!holds) {
            wrong++;
            System.out.println(sentence + "not so: " + what);
        }
    }

    int wrong() {
        return wrong;
    }

    /** Each of these promises has a sentence that was tested. */
    void allPromises(int first, int last) {
        closeSentence();
        for (int i = first; i <= last; i++) {
            so("Promise " + i + " has a sentence that is tested", parts.contains("Promise " + i));
        }
    }

    /** Ends the test, with exit code 1 if an answer was wrong or nothing was asked. */
    void end() {
        closeSentence();
        System.out.println(asked + " asked, " + wrong + " wrong");
        if (wrong != 0 || asked == 0) {
            System.exit(1);
        }
    }
}
