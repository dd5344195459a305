/** Promises 14 to 17. */
public final class HoursTest {
    private static final String TOWN = "clock 40;person;go 0 60 6;wait 3 50 10;person;go 20 100 5;person;"
            + "wait 2 30 3;wait 9 40 4;person;wait 99 5 5;march 60 10 4;";

    public static void main(String[] args) {
        whenAnHourComes();
        whatIsNowDoesNotCount();
        stepsBehindMinutes();
        whoHangs();
        theHourAtTheEnd();
        whenItStands();
        leastSteps();
        refusals();
        Checks.end("HoursTest");
    }

    private static void whenAnHourComes() {
        StepClock x = Checks.told(TOWN);
        int[] want = {7, 24, 29, 32, 34, 40, 70, StepClock.NONE};
        for (int h = 1; h <= want.length; h++) {
            Checks.due("comes(" + h + ", 0)", x.comes(h, 0), want[h - 1]);
        }
        Checks.due("the first sits", x.comes(2, 1), 36);
        Checks.due("bits that there are not", x.comes(2, ~15), 24);
        Checks.due("a march doesn't sit", x.comes(1, -1), 70);
        Checks.due("both sit", x.comes(3, 3), StepClock.NONE);
        StepClock last = Checks.told("clock 10;march 239 1 10;");
        Checks.due("by the last minute", last.comes(1, 0), 240);
        Checks.due("not by then", last.comes(2, 0), StepClock.NONE);
        StepClock leap = Checks.told("clock 10;march 5 1 999;");
        Checks.due("several hours at once", leap.comes(99, 0), 6);
        Checks.due("one beyond", leap.comes(100, 0), StepClock.NONE);
    }

    private static void whatIsNowDoesNotCount() {
        StepClock x = Checks.told(TOWN);
        x.sits(15);
        x.one(9999);
        x.go(50);
        Checks.due("comes(3, 0)", x.comes(3, 0), 29);
        Checks.due("steps(40)", x.steps(40), 240);
        Checks.due("hangs(0)", x.hangs(0), 12);
        Checks.due("hangs(1)", x.hangs(1), 70);
        Checks.due("least(3, 26)", x.least(3, 26), 24);
        Checks.due("strike(5, 120, 0)", x.strike(5, 120, 0), 1);
        Checks.due("undone(2, 5, 100)", x.undone(2, 5, 100), 20);
        Checks.due("even(40, 1)", x.even(40, 1), 6);
        Checks.due("MINUTE stays", x.now(0), 50);
        Checks.due("STEPS stay", x.now(1), 9999);
        Checks.due("who sits stays", x.now(4), 15);
        Checks.due("ways stay", x.person(0, 3), 0);
    }

    private static void stepsBehindMinutes() {
        StepClock x = Checks.told(TOWN);
        int[][] want = {{0, 0}, {1, 6}, {10, 60}, {11, 60}, {20, 60}, {21, 65}, {40, 240}, {60, 240}, {61, 244},
            {70, 280}, {240, 280}};
        for (int[] row : want) {
            Checks.due("steps(" + row[0] + ")", x.steps(row[0]), row[1]);
        }
        StepClock most = Checks.told(marchesAll());
        Checks.due("the most", most.steps(240), 4 * 240 * 999);
    }

    private static String marchesAll() {
        return "clock 10;" + "march 0 240 999;".repeat(4);
    }

    private static void whoHangs() {
        StepClock x = Checks.told(TOWN);
        Checks.due("hangs(0)", x.hangs(0), 12);
        StepClock y = Checks.told("person;go 0 5 5;person;wait 1 5 5;person;go 239 5 1;wait 99 1 1;"
                + "person;go 239 5 5;wait 99 1 1;person;");
        Checks.due("the first", Checks.told("person;wait 1 1 1;person;go 0 1 1;").hangs(0), 1);
        Checks.due("not who waits for a minute", Checks.told("person;go 239 1 1;go 239 1 1;").hangs(0), 0);
        Checks.due("not who is on a way, nor who is done", y.hangs(0), 2 | 8);
    }

    private static void theHourAtTheEnd() {
        // Hour 1 is there behind 240 minutes: too late to set out, but nobody hangs on it.
        StepClock x = Checks.told("clock 10;person;wait 1 5 5;person;wait 2 5 5;march 239 1 10;");
        Checks.due("hangs(0)", x.hangs(0), 2);
        Checks.due("hangs(1)", x.hangs(1), 240);
        Checks.due("STEPS", x.steps(240), 10);
    }

    private static void whenItStands() {
        Checks.due("no steps at all", Checks.told("person;wait 1 1 1;").hangs(1), 0);
        Checks.due("a step in minute 0", Checks.told("march 0 1 1;").hangs(1), 1);
        Checks.due("a step in minute 100", Checks.told("person;go 100 1 1;").hangs(1), 101);
        Checks.due("a pause is none", Checks.told("person;go 0 1 1;go 50 4 2;").hangs(1), 52);
    }

    private static void leastSteps() {
        StepClock x = Checks.told(TOWN);
        Checks.due("it does so", x.least(3, 29), 0);
        Checks.due("a minute sooner", x.least(3, 28), 120 - x.steps(28));
        Checks.due("behind it", x.least(3, 30), StepClock.NONE);
        Checks.due("at the first minute", x.least(1, 1), 34);
        Checks.due("never else", x.least(8, 240), 40);
        Checks.due("comes at 7", x.least(1, 7), 0);
        Checks.due("came at 7", x.least(1, 8), StepClock.NONE);
        Checks.due("a far hour", x.least(9999, 1), 9999 * 40 - 6);
        StepClock most = Checks.told("clock 999;");
        Checks.due("the farthest", most.least(9999, 240), 9999 * 999);
        StepClock leap = Checks.told("clock 10;march 5 1 999;");
        Checks.due("more than enough", leap.least(1, 6), 0);
    }

    private static void refusals() {
        StepClock x = Checks.told(TOWN);
        for (int no : new int[] {0, -1, 10000, Integer.MAX_VALUE, Integer.MIN_VALUE}) {
            Checks.due("comes(" + no + ", 0)", x.comes(no, 0), StepClock.BAD);
            Checks.due("least(" + no + ", 1)", x.least(no, 1), StepClock.BAD);
        }
        Checks.due("comes(9999, 0)", x.comes(9999, 0), StepClock.NONE);
        for (int no : new int[] {-1, 241, Integer.MAX_VALUE, Integer.MIN_VALUE}) {
            Checks.due("steps(" + no + ")", x.steps(no), StepClock.BAD);
            Checks.due("least(1, " + no + ")", x.least(1, no), StepClock.BAD);
        }
        Checks.due("least(1, 0)", x.least(1, 0), StepClock.BAD);
        for (int no : new int[] {-1, 2, Integer.MAX_VALUE, Integer.MIN_VALUE}) {
            Checks.due("hangs(" + no + ")", x.hangs(no), StepClock.BAD);
        }
    }
}
