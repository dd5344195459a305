import java.io.IOException;
import java.nio.file.Files;
import java.nio.file.Path;

/** What all tests share: typing a text, and telling every answer that is not the one that is due. */
final class Checks {
    private static final int PROMISES = 30;
    private static final Path DOCUMENT = Path.of("..", "shared", "DOC.md");

    private static final int[] sentences = new int[PROMISES + 1];
    private static final String document = readDocument();
    private static String about = "";
    private static int wrong = 0;
    private static int asked = 0;

    private Checks() {
    }

    /** Empty where the document is not at hand: the tests hold without it. */
    private static String readDocument() {
        try {
            return Files.exists(DOCUMENT) ? Files.readString(DOCUMENT) : "";
        } catch (IOException unreadable) {
            return "";
        }
    }

    /** The document's words that the checks from here on hold the class to, and the promise they belong to. */
    static void sentence(int promise, String words) {
        about = "promise " + promise + ", '" + words + "': ";
        sentences[promise]++;
        // Other words are no fault of the class: whoever sees this line looks whether the test still holds.
        if (!document.isEmpty() && !document.contains(words)) {
            System.out.println(about + "the document has other words now");
        }
    }

    static void due(String call, long got, long want) {
        asked++;
        if (got != want) {
            wrong++;
            System.out.println(about + call + " answered " + got + ", due is " + want);
        }
    }

    static void due(String call, String got, String want) {
        asked++;
        if (!got.equals(want)) {
            wrong++;
            System.out.println(about + call + "\n   answered " + got + "\n   due is   " + want);
        }
    }

    /** Types a text, eight bytes a call at most: the last answer. */
    static int type(StepClock x, String text) {
        int answer = x.count(4);
        for (int from = 0; from < text.length(); from += 8) {
            int n = Math.min(8, text.length() - from);
            long v = 0;
            for (int i = 0; i < n; i++) {
                v = v << 8 | text.charAt(from + i) & 255;
            }
            answer = x.type(v, n);
        }
        return answer;
    }

    /** A new object with a text as its day. */
    static StepClock told(String text) {
        StepClock x = new StepClock();
        due("type(" + text + ")", type(x, text), text.length());
        int items = x.day();
        if (items < 0) {
            due("day() of " + text, items, text.chars().filter(c -> c == ';').count());
        }
        return x;
    }

    static void end(String test) {
        System.out.println(test + ": " + asked + " answers, " + wrong + " not as due");
        if (wrong != 0) {
            System.exit(1);
        }
    }

    /** The end of a test that holds a row of promises: each must have had a sentence of its own. */
    static void end(String test, int first, int last) {
        about = "";
        for (int promise = first; promise <= last; promise++) {
            due("promise " + promise + " has sentences", sentences[promise] > 0 ? 1 : 0, 1);
        }
        end(test);
    }
}
