/** Promises 8 to 13. */
public final class MinutesTest {
    public static void main(String[] args) {
        waysOneBehindAnother();
        theHourAsTheMinuteBegins();
        marches();
        whoSits();
        oneMore();
        goingToTheEnd();
        evenHours();
        refusals();
        beginningAnew();
        Checks.end("MinutesTest");
    }

    private static void person(StepClock x, int p, int done, int on, int left, int taken) {
        int[] want = {done, on, left, taken};
        for (int what = 0; what < 4; what++) {
            Checks.due("person(" + p + ", " + what + ")", x.person(p, what), want[what]);
        }
    }

    private static void waysOneBehindAnother() {
        StepClock x = Checks.told("clock 10;person;go 2 25 10;go 0 3 5;go 9 1 1;wait 99 7 7;");
        Checks.due("minutes 0, 1", x.go(2), 0);
        person(x, 0, 0, 0, 0, 0);
        Checks.due("minute 2 sets out", x.go(1), 10);
        person(x, 0, 0, 1, 15, 10);
        Checks.due("on ways", x.now(3), 1);
        Checks.due("minute 3", x.go(1), 10);
        Checks.due("minute 4 takes what is left, the next way waits", x.go(1), 5);
        person(x, 0, 1, 0, 0, 25);
        Checks.due("on ways", x.now(3), 0);
        Checks.due("minute 5 ends a way at once", x.go(1), 3);
        person(x, 0, 2, 0, 0, 28);
        Checks.due("minutes 6 to 8", x.go(3), 0);
        Checks.due("minute 9", x.go(1), 1);
        person(x, 0, 3, 0, 0, 29);
        Checks.due("the rest", x.go(240), 0);
        person(x, 0, 3, 0, 0, 29);
        Checks.due("STEPS", x.now(1), 29);
        Checks.due("HOUR", x.now(2), 2);
    }

    private static void theHourAsTheMinuteBegins() {
        // The first reaches hour 1 in minute 1; both others begin in minute 2, though told ahead and behind.
        StepClock x = Checks.told("clock 10;person;wait 1 4 2;person;go 0 10 5;person;wait 1 6 3;person;wait 2 1 1;");
        Checks.due("minute 0", x.go(1), 5);
        Checks.due("minute 1", x.go(1), 5);
        Checks.due("HOUR", x.now(2), 1);
        Checks.due("nobody on a way yet", x.now(3), 0);
        Checks.due("minute 2", x.go(1), 5);
        Checks.due("two on a way", x.now(3), 2);
        Checks.due("minute 3", x.go(1), 5);
        Checks.due("HOUR", x.now(2), 2);
        Checks.due("minute 4", x.go(1), 1);
        person(x, 3, 1, 0, 0, 1);
        StepClock y = Checks.told("person;go 0 3 2;person;");
        y.go(1);
        Checks.due("one step is left", y.now(3), 1);
        person(y, 0, 0, 1, 1, 2);
    }

    private static void marches() {
        StepClock x = Checks.told("march 2 3 7;march 4 1 100;march 239 240 5;person;");
        int[] want = {0, 0, 7, 7, 107, 0};
        for (int m = 0; m < want.length; m++) {
            Checks.due("minute " + m, x.go(1), want[m]);
        }
        x.sits(1);
        Checks.due("minutes up to 239", x.go(233), 0);
        Checks.due("marches don't sit", x.go(1), 5);
        Checks.due("STEPS", x.now(1), 126);
        Checks.due("none is on a way", x.now(3), 0);
        person(x, 0, 0, 0, 0, 0);
    }

    private static void whoSits() {
        StepClock x = Checks.told("person;go 0 30 10;person;go 3 10 10;person;");
        Checks.due("sits()", x.sits(2), 0);
        Checks.due("minute 0", x.go(1), 10);
        Checks.due("sits() tells what it was", x.sits(1), 2);
        Checks.due("now(4)", x.now(4), 1);
        Checks.due("minutes 1, 2", x.go(2), 0);
        Checks.due("sits on a way", x.now(3), 1);
        person(x, 0, 0, 1, 20, 10);
        Checks.due("both sit", x.sits(3), 1);
        Checks.due("minute 3", x.go(1), 0);
        person(x, 1, 0, 0, 0, 0);
        Checks.due("those there are", x.sits(-1), 3);
        Checks.due("now(4)", x.now(4), 7);
        Checks.due("none of those there are", x.sits(~7), 7);
        Checks.due("now(4)", x.now(4), 0);
        Checks.due("both walk", x.go(1), 20);
        Checks.due("sits()", x.sits(Integer.MIN_VALUE | 4), 0);
        Checks.due("now(4)", x.now(4), 4);
    }

    private static void oneMore() {
        StepClock x = Checks.told("clock 100;person;wait 1 10 4;");
        Checks.due("99", x.one(99), 0);
        Checks.due("not yet", x.go(1), 0);
        Checks.due("1", x.one(1), 1);
        Checks.due("STEPS", x.now(1), 100);
        Checks.due("now it is", x.go(1), 4);
        Checks.due("9999", x.one(9999), 101);
        Checks.due("MINUTE", x.now(0), 2);
        Checks.due("STEPS", x.now(1), 10103);
        person(x, 0, 0, 1, 6, 4);
        for (int no : new int[] {0, -1, 10000, Integer.MAX_VALUE, Integer.MIN_VALUE}) {
            Checks.due("one(" + no + ")", x.one(no), StepClock.BAD);
        }
        Checks.due("STEPS", x.now(1), 10103);
    }

    private static void goingToTheEnd() {
        StepClock x = Checks.told("march 0 240 3;march 0 240 1;");
        Checks.due("go(239)", x.go(239), 956);
        Checks.due("as many as are left", x.go(2), 4);
        Checks.due("MINUTE", x.now(0), 240);
        Checks.due("go(1)", x.go(1), StepClock.STATE);
        Checks.due("go(0)", x.go(0), StepClock.BAD);
        Checks.due("go(241)", x.go(241), StepClock.BAD);
        Checks.due("one(1)", x.one(1), StepClock.STATE);
        Checks.due("one(0)", x.one(0), StepClock.BAD);
        Checks.due("STEPS", x.now(1), 960);
        Checks.due("sits(0)", x.sits(0), 0);
    }

    private static void evenHours() {
        StepClock x = new StepClock();
        int[] want = {0, 1, 1, 2, 3, 4};
        int[] minutes = {59, 1, 59, 1, 60, 60};
        for (int i = 0; i < want.length; i++) {
            x.go(minutes[i]);
            Checks.due("now(5) at " + x.now(0), x.now(5), want[i]);
        }
    }

    private static void refusals() {
        StepClock x = Checks.told("person;go 0 9 9;");
        for (int no : new int[] {0, -1, 241, Integer.MAX_VALUE, Integer.MIN_VALUE}) {
            Checks.due("go(" + no + ")", x.go(no), StepClock.BAD);
        }
        for (int no : new int[] {-1, 6, Integer.MAX_VALUE, Integer.MIN_VALUE}) {
            Checks.due("now(" + no + ")", x.now(no), StepClock.BAD);
            Checks.due("person(" + no + ", 0)", x.person(no, 0), StepClock.BAD);
        }
        for (int no : new int[] {-1, 4, Integer.MAX_VALUE, Integer.MIN_VALUE}) {
            Checks.due("person(0, " + no + ")", x.person(0, no), StepClock.BAD);
        }
        Checks.due("person(1, 0)", x.person(1, 0), StepClock.BAD);
        Checks.due("MINUTE", x.now(0), 0);
    }

    private static void beginningAnew() {
        StepClock x = Checks.told("clock 10;person;go 0 50 10;person;go 0 5 5;");
        x.stair(3);
        x.go(2);
        x.keep(0);
        x.one(3);
        x.sits(2);
        Checks.type(x, "per");
        x.mark(0, 0);
        Checks.due("anew()", x.anew(), 2);
        for (int what = 0; what < 6; what++) {
            Checks.due("now(" + what + ")", x.now(what), 0);
        }
        person(x, 0, 0, 0, 0, 0);
        person(x, 1, 0, 0, 0, 0);
        Checks.due("the text stays", x.count(4), 3);
        Checks.due("the stair stays", x.count(3), 1);
        Checks.due("the day stays", x.count(0), 2);
        Checks.due("the trace stays", x.trace(), 1);
        Checks.due("as at first", x.go(1), 15);
        Checks.due("the images stay", x.back(0), 2);
        Checks.due("STEPS", x.now(1), 25);
        Checks.due("anew()", x.anew(), 2);
        Checks.due("anew()", x.anew(), 0);
    }
}
