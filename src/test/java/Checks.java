/** What all tests share: typing a text, and telling every answer that is not the one that is due. */
final class Checks {
    private static int wrong = 0;
    private static int asked = 0;

    private Checks() {
    }

    static void due(String call, long got, long want) {
        asked++;
        if (got != want) {
            wrong++;
            System.out.println(call + " answered " + got + ", due is " + want);
        }
    }

    /** Types a text, eight bytes a call at most: the last answer. */
    static int type(StepClock x, String text) {
        int answer = x.count(4);
        for (int from = 0; from < text.length(); from += 8) {
            int n = Math.min(8, text.length() - from);
            long v = 0;
            for (int i = 0; i < n; i++) {
                v = v << 8 | text.charAt(from + i) & 255;
            }
            answer = x.type(v, n);
        }
        return answer;
    }

    /** A new object with a text as its day. */
    static StepClock told(String text) {
        StepClock x = new StepClock();
        due("type(" + text + ")", type(x, text), text.length());
        int items = x.day();
        if (items < 0) {
            due("day() of " + text, items, text.chars().filter(c -> c == ';').count());
        }
        return x;
    }

    static void end(String test) {
        System.out.println(test + ": " + asked + " answers, " + wrong + " not as due");
        if (wrong != 0) {
            System.exit(1);
        }
    }
}
