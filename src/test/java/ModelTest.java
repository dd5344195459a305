/** Long runs of calls, ordinary and wrong ones, each answer against the model's. */
public final class ModelTest {
    private static final int RUNS = 375;
    private static final int CALLS = 400;

    private long seed;
    private final StepClock x = new StepClock();
    private final Model model = new Model();

    private ModelTest(long seed) {
        this.seed = seed * 0x9E3779B97F4A7C15L + 1;
    }

    public static void main(String[] args) {
        for (int run = 0; run < RUNS; run++) {
            new ModelTest(run).run(run);
        }
        Checks.end("ModelTest");
    }

    /** A row of numbers that is the same in every run of the test. */
    private int any(int least, int most) {
        seed = seed * 6364136223846793005L + 1442695040888963407L;
        return least + (int) ((seed >>> 33) % (most - least + 1));
    }

    /** A number as told, or, now and then, one beside it or far away. */
    private int about(int least, int most) {
        int dice = any(0, 39);
        if (dice == 0) {
            return least - 1;
        }
        if (dice == 1) {
            return most + 1;
        }
        if (dice == 2) {
            return any(0, 1) == 0 ? Integer.MIN_VALUE : Integer.MAX_VALUE;
        }
        if (dice < 6) {
            return any(0, 1) == 0 ? least : most;
        }
        return any(least, most);
    }

    private void run(int run) {
        for (int call = 0; call < CALLS;) {
            if (any(0, 59) == 0 || call == 0) {
                call += readDay(run);
            }
            oneCall("run " + run + " call " + call + ": ");
            call++;
        }
    }

    private int readDay(int run) {
        if (any(0, 1) == 0) {
            Checks.due("clear()", x.clear(), model.text.length());
            model.text.setLength(0);
        }
        String text = text();
        int calls = 2;
        for (int from = 0; from < text.length(); from += 8) {
            int n = Math.min(8, text.length() - from);
            long v = any(0, 999);
            for (int i = 0; i < n; i++) {
                v = v << 8 | text.charAt(from + i);
            }
            Checks.due("type(" + v + ", " + n + ")", x.type(v, n), model.type(v, n));
            calls++;
        }
        String whole = model.text.toString();
        Checks.due("run " + run + ": day() of '" + whole + "'", x.day(), model.day());
        return calls;
    }

    private String number(int least, int most) {
        return Integer.toString(any(0, 150) == 0 ? about(least, most) : any(least, most));
    }

    private String way() {
        return any(0, 1) == 0 ? "go " + number(0, any(0, 2) == 0 ? 239 : 20) + " " + steps() + " " + number(1, 20)
                : "wait " + number(1, any(0, 3) == 0 ? 99 : 5) + " " + steps() + " " + number(1, 20);
    }

    private String steps() {
        return number(1, any(0, 3) == 0 ? 999 : 60);
    }

    private String text() {
        StringBuilder text = new StringBuilder();
        if (any(0, 9) > 0) {
            text.append("clock ").append(number(10, any(0, 1) == 0 ? 60 : 999)).append(";");
        }
        for (int i = any(0, 6); i > 0; i--) {
            text.append("person;");
            for (int k = any(0, 3); k > 0; k--) {
                text.append(way()).append(";");
            }
        }
        for (int i = any(0, 2); i > 0; i--) {
            text.append("march ").append(number(0, 239)).append(" ").append(number(1, 240)).append(" ")
                    .append(number(1, any(0, 9) == 0 ? 999 : 9)).append(";");
        }
        for (int i = any(0, 6); i > 0; i--) {
            text.append(any(0, 1) == 0 ? "work hours " + steps() : "work fire " + number(1, any(0, 2) == 0 ? 240 : 60));
            text.append(" ").append(number(0, 99)).append(";");
        }
        for (int i = any(0, 4) - 2; i > 0 && text.length() > 0; i--) {
            spoil(text);
        }
        return text.toString();
    }

    private void spoil(StringBuilder text) {
        int at = any(0, text.length() - 1);
        switch (any(0, 5)) {
            case 0:
                text.deleteCharAt(at);
                break;
            case 1:
                text.insert(at, " ");
                break;
            case 2:
                text.insert(at, (char) any(0, 255));
                break;
            case 3:
                text.setLength(at);
                break;
            case 4:
                text.insert(at, "0;9az".charAt(any(0, 4)));
                break;
            default:
                int to = text.indexOf(";", at) + 1;
                text.insert(Math.max(to, 0), text.substring(at, Math.max(to, at)));
        }
    }

    private void oneCall(String where) {
        int a = 0;
        int b = 0;
        int c = 0;
        switch (any(0, 29)) {
            case 0:
                a = about(0, 5);
                b = about(0, 3);
                c = about(0, 3);
                Checks.due(where + "way " + a + " " + b + " " + c, x.way(a, b, c), model.way(a, b, c));
                break;
            case 1:
                a = about(0, 3);
                b = about(0, 2);
                Checks.due(where + "march " + a + " " + b, x.march(a, b), model.part(model.marches, a, b));
                break;
            case 2:
                a = about(0, 5);
                b = about(0, 2);
                Checks.due(where + "work " + a + " " + b, x.work(a, b), model.part(model.works, a, b));
                break;
            case 3:
            case 4:
                a = any(0, 5) == 0 ? about(1, 240) : any(1, 9);
                Checks.due(where + "go " + a, x.go(a), model.go(a));
                break;
            case 5:
                a = any(-1, 64);
                Checks.due(where + "sits " + a, x.sits(a), model.sits(a));
                break;
            case 6:
                a = any(0, 3) == 0 ? about(1, 9999) : any(1, 40);
                Checks.due(where + "one " + a, x.one(a), model.one(a));
                break;
            case 7:
            case 8:
                a = about(0, 5);
                Checks.due(where + "now " + a, x.now(a), model.now(a));
                break;
            case 9:
            case 10:
                a = about(0, 5);
                b = about(0, 3);
                Checks.due(where + "person " + a + " " + b, x.person(a, b), model.person(a, b));
                break;
            case 11:
                if (any(0, 3) == 0) {
                    Checks.due(where + "anew", x.anew(), model.anew());
                }
                break;
            case 12:
            case 13:
                a = about(1, any(0, 5) == 0 ? 9999 : 12);
                b = any(-1, 64);
                Checks.due(where + "comes " + a + " " + b, x.comes(a, b), model.comes(a, b));
                break;
            case 14:
                a = about(0, 240);
                Checks.due(where + "steps " + a, x.steps(a), model.steps(a));
                break;
            case 15:
                a = about(0, 1);
                Checks.due(where + "hangs " + a, x.hangs(a), model.hangs(a));
                break;
            default:
                anotherCall(where);
        }
    }

    private void anotherCall(String where) {
        int a = 0;
        int b = 0;
        int c = 0;
        switch (any(16, 28)) {
            case 16:
                a = about(1, any(0, 5) == 0 ? 9999 : 12);
                b = about(1, any(0, 1) == 0 ? 240 : 30);
                Checks.due(where + "least " + a + " " + b, x.least(a, b), model.least(a, b));
                break;
            case 17:
                a = about(0, 5);
                b = about(0, any(0, 1) == 0 ? 240 : 30);
                Checks.due(where + "ends " + a + " " + b, x.ends(a, b), model.ends(a, b));
                break;
            case 18:
                a = about(0, 2);
                Checks.due(where + "oneDay " + a, x.oneDay(a), model.oneDay(a));
                break;
            case 19:
                wages(where);
                break;
            case 20:
                a = about(0, 240);
                b = about(0, 3);
                Checks.due(where + "even " + a + " " + b, x.even(a, b), model.even(a, b));
                break;
            case 21:
                a = about(1, any(0, 5) == 0 ? 9999 : 12);
                b = about(1, any(0, 1) == 0 ? 240 : 30);
                c = about(0, 1);
                Checks.due(where + "strike " + a + " " + b + " " + c, x.strike(a, b, c), model.strike(a, b, c));
                break;
            case 22:
                a = any(-1, 64);
                b = about(1, any(0, 9) == 0 ? 9999 : 9);
                c = about(1, any(0, 1) == 0 ? 240 : 30);
                Checks.due(where + "undone " + a + " " + b + " " + c, x.undone(a, b, c), model.undone(a, b, c));
                break;
            case 23:
                a = any(0, 1) == 0 ? about(0, 9999) : any(0, 50);
                Checks.due(where + "stair " + a, x.stair(a), model.stair(a));
                break;
            case 24:
                a = any(0, 1) == 0 ? about(0, 199999) : any(0, 500);
                b = about(0, any(0, 1) == 0 ? 999 : 30);
                c = about(0, 2);
                Checks.due(where + "worn " + a + " " + b + " " + c, x.worn(a, b, c), model.worn(a, b, c));
                break;
            case 25:
                a = about(0, 5);
                b = about(0, 3);
                Checks.due(where + "mark " + a + " " + b, x.mark(a, b), model.mark(a, b));
                Checks.due(where + "trace", x.trace(), model.trace);
                break;
            case 26:
                a = about(0, 1);
                Checks.due(where + "keep " + a, x.keep(a), model.keep(a));
                break;
            case 27:
                a = about(0, 1);
                Checks.due(where + "back " + a, x.back(a), model.back(a));
                break;
            default:
                a = about(0, 5);
                Checks.due(where + "count " + a, x.count(a), model.count(a));
        }
    }

    private void wages(String where) {
        int n = about(1, 8);
        int b = about(0, any(0, 1) == 0 ? 9999 : 200);
        int steps = about(1, any(0, 1) == 0 ? 999 : 60);
        int w = about(0, 99);
        int t = about(0, 99);
        int what = about(0, 3);
        Checks.due(where + "wages " + n + " " + b + " " + steps + " " + w + " " + t + " " + what,
                x.wages(n, b, steps, w, t, what), model.wages(n, b, steps, w, t, what));
    }
}
