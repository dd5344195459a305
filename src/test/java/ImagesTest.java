/** Promises 26 to 30. */
public final class ImagesTest {
    public static void main(String[] args) {
        marksOfKinds();
        theTraceGrows();
        marksRefused();
        imagesKeepNow();
        imagesKeepNothingElse();
        imagesRefused();
        Checks.end("ImagesTest");
    }

    /** Behind 65 minutes: the first has taken 65 steps, 35 are left; the clock has gone 130 more. */
    private static StepClock atMinute65() {
        StepClock x = Checks.told("clock 10;person;go 0 100 1;person;march 0 65 2;");
        x.go(65);
        return x;
    }

    private static void marksOfKinds() {
        StepClock x = atMinute65();
        Checks.due("HOUR", x.now(2), 19);
        int[] walks = {65, 100, 65 - 19, 200, 65 - 19 + 65, 66};
        int[] stays = {0, 0, -19, 0, 65 - 19, 1};
        for (int kind = 0; kind < 6; kind++) {
            Checks.due("mark(" + kind + ", 0)", x.mark(kind, 0), walks[kind]);
            Checks.due("mark(" + kind + ", 1)", x.mark(kind, 1), stays[kind]);
        }
        x.sits(1);
        Checks.due("who sits has a way, too", x.mark(1, 0), 100);
        x.go(240);
        Checks.due("a guest at the end", x.mark(5, 1), 4);
        Checks.due("below 0", x.mark(2, 1), -19);
    }

    private static void theTraceGrows() {
        int[] adds = {1, 11, 101, 1011, 10101, 100001};
        StepClock x = atMinute65();
        long want = 0;
        for (int round = 0; round < 3; round++) {
            for (int kind = 0; kind < 6; kind++) {
                x.mark(kind, kind & 1);
                want += adds[kind];
                Checks.due("trace() behind mark(" + kind + ", ..)", x.trace(), want);
            }
        }
        x.anew();
        Checks.due("trace() behind anew()", x.trace(), want);
        x.type(32, 1);
        x.day();
        Checks.due("trace() behind day()", x.trace(), want);
        Checks.due("another object's trace", new StepClock().trace(), 0);
    }

    private static void marksRefused() {
        StepClock x = atMinute65();
        for (int no : new int[] {-1, 6, Integer.MAX_VALUE, Integer.MIN_VALUE}) {
            Checks.due("mark(" + no + ", 0)", x.mark(no, 0), StepClock.NO);
            Checks.due("mark(0, " + no + ")", x.mark(0, no), StepClock.NO);
        }
        Checks.due("mark(0, 2)", x.mark(0, 2), StepClock.NO);
        Checks.due("trace()", x.trace(), 0);
        Checks.due("nobody", new StepClock().mark(0, 0), StepClock.NO);
    }

    private static int[] state(StepClock x, int people) {
        int[] all = new int[6 + 4 * people];
        for (int what = 0; what < 6; what++) {
            all[what] = x.now(what);
        }
        for (int i = 0; i < 4 * people; i++) {
            all[6 + i] = x.person(i / 4, i % 4);
        }
        return all;
    }

    private static void same(String when, int[] got, int[] want) {
        for (int i = 0; i < want.length; i++) {
            Checks.due(when + ", place " + i, got[i], want[i]);
        }
    }

    private static void imagesKeepNow() {
        StepClock x = Checks.told("clock 10;person;go 0 30 7;wait 4 9 2;person;go 2 40 3;person;wait 1 5 5;");
        x.go(3);
        x.one(17);
        x.sits(2);
        int[] first = state(x, 3);
        Checks.due("keep(0)", x.keep(0), 3);
        x.go(4);
        x.sits(5);
        int[] second = state(x, 3);
        Checks.due("keep(1)", x.keep(1), 7);
        x.go(200);
        x.sits(0);
        x.one(9999);
        Checks.due("back(0)", x.back(0), 3);
        same("back(0)", state(x, 3), first);
        Checks.due("back(1)", x.back(1), 7);
        same("back(1)", state(x, 3), second);
        x.go(5);
        Checks.due("back(1) again", x.back(1), 7);
        same("back(1) again", state(x, 3), second);
        x.back(0);
        x.sits(0);
        Checks.due("it goes on from there", x.go(1), 7 + 3);
        Checks.due("kept over another", x.keep(0), 4);
        x.go(240);
        Checks.due("back from the end", x.back(0), 4);
        Checks.due("MINUTE", x.now(0), 4);
    }

    private static void imagesKeepNothingElse() {
        StepClock x = Checks.told("person;go 0 9 1;");
        x.keep(0);
        x.stair(4);
        x.mark(0, 0);
        x.type(65, 1);
        Checks.due("back(0)", x.back(0), 0);
        Checks.due("the stair", x.count(3), 1);
        Checks.due("the trace", x.trace(), 1);
        Checks.due("the text", x.count(4), 1);
        Checks.due("the day", x.count(0), 1);
    }

    private static void imagesRefused() {
        StepClock x = Checks.told("person;go 0 9 1;");
        x.go(2);
        for (int no : new int[] {-1, 2, Integer.MAX_VALUE, Integer.MIN_VALUE}) {
            Checks.due("keep(" + no + ")", x.keep(no), StepClock.BAD);
            Checks.due("back(" + no + ")", x.back(no), StepClock.BAD);
        }
        Checks.due("back(0)", x.back(0), StepClock.STATE);
        Checks.due("back(1)", x.back(1), StepClock.STATE);
        Checks.due("MINUTE", x.now(0), 2);
        x.keep(1);
        Checks.due("the other one", x.back(0), StepClock.STATE);
        Checks.due("back(1)", x.back(1), 2);
        x.day();
        Checks.due("gone with the day", x.back(1), StepClock.STATE);
    }
}
