/** Promises 22 to 25. */
public final class StrikesTest {
    private static final String STAIRCASE = "clock 50;person;go 0 20 2;wait 1 20 2;person;go 10 40 3;wait 2 20 2;"
            + "person;go 20 60 4;wait 3 20 2;person;go 30 80 5;wait 4 20 2;person;go 40 100 6;wait 5 20 2;"
            + "person;go 50 120 7;wait 6 20 2;";

    public static void main(String[] args) {
        theFewestWhoStop();
        nobodyNeedsTo();
        nobodyCan();
        byAMinute();
        whatUndoesIt();
        whoWaitsGoesByThem();
        undoneAtTheEdges();
        theStair();
        wornRows();
        wornAtTheEdges();
        refusals();
        Checks.end("StrikesTest");
    }

    private static void strike(StepClock x, int h, int t, int set, int many) {
        Checks.due("strike(" + h + ", " + t + ", 0)", x.strike(h, t, 0), set);
        Checks.due("strike(" + h + ", " + t + ", 1)", x.strike(h, t, 1), many);
    }

    private static void theFewestWhoStop() {
        StepClock x = Checks.told(STAIRCASE);
        int[] sets = {61, 60, 46, 52, 26, 48, 20, 10};
        int[] many = {5, 4, 4, 3, 3, 2, 2, 2};
        for (int h = 1; h <= sets.length; h++) {
            strike(x, h, 100, sets[h - 1], many[h - 1]);
        }
        // The one of the highest bit alone is fewer than two below it, though a greater set.
        strike(Checks.told("clock 10;person;go 0 3 3;person;go 0 3 3;person;go 0 9 9;"), 1, 9, 4, 1);
        strike(Checks.told("clock 10;person;go 0 10 9;person;go 0 10 9;"), 2, 9, 1, 1);
        strike(Checks.told("clock 10;person;go 0 10 9;person;go 0 10 9;"), 1, 9, 3, 2);
    }

    private static void nobodyNeedsTo() {
        strike(new StepClock(), 1, 240, 0, 0);
        strike(Checks.told("clock 10;person;go 0 9 9;"), 1, 240, 0, 0);
    }

    private static void nobodyCan() {
        StepClock x = Checks.told("clock 10;march 0 10 1;person;go 0 5 5;");
        strike(x, 1, 10, StepClock.NONE, StepClock.NONE);
        strike(x, 1, 9, 1, 1);
        strike(x, 2, 10, 0, 0);
    }

    private static void byAMinute() {
        StepClock x = Checks.told("clock 10;person;go 239 10 10;");
        strike(x, 1, 239, 0, 0);
        strike(x, 1, 240, 1, 1);
        strike(x, 1, 1, 0, 0);
    }

    private static void undone(StepClock x, int set, int h, int t, int want) {
        Checks.due("undone(" + set + ", " + h + ", " + t + ")", x.undone(set, h, t), want);
    }

    private static void whatUndoesIt() {
        StepClock x = Checks.told(STAIRCASE);
        undone(x, 21, 4, 80, 0);
        undone(x, 21, 6, 80, 20);
        undone(x, 21, 9, 80, 150);
        undone(x, 63, 3, 10, 150);
        undone(x, 63, 200, 10, StepClock.NONE);
        undone(x, -1, 199, 240, 9950);
        undone(x, ~63, 4, 38, 0);
    }

    private static void whoWaitsGoesByThem() {
        // Ten steps bring hour 1, by which the first brings hour 2, by which the second brings hour 3.
        StepClock x = Checks.told("clock 10;person;wait 1 10 5;person;wait 2 10 10;");
        undone(x, 0, 3, 3, 10);
        undone(x, 0, 3, 2, 15);
        undone(x, 0, 3, 1, 20);
        undone(x, 0, 2, 1, 15);
        undone(x, 1, 3, 240, 20);
        undone(x, 2, 3, 240, 20);
        undone(x, 3, 3, 240, 30);
        undone(x, 0, 1, 240, 10);
    }

    private static void undoneAtTheEdges() {
        StepClock x = new StepClock();
        undone(x, 0, 111, 1, 9990);
        undone(x, 0, 112, 1, StepClock.NONE);
        StepClock y = Checks.told("clock 101;");
        undone(y, 0, 99, 240, 9999);
        undone(y, 0, 100, 240, StepClock.NONE);
        StepClock z = Checks.told("clock 10;march 0 1 1;");
        undone(z, 0, 1000, 1, 9999);
        undone(z, 0, 1, 1, 9);
        undone(z, -1, 9999, 240, StepClock.NONE);
    }

    private static void theStair() {
        StepClock x = new StepClock();
        for (int no : new int[] {-1, 10000, Integer.MAX_VALUE, Integer.MIN_VALUE}) {
            Checks.due("stair(" + no + ")", x.stair(no), StepClock.BAD);
        }
        for (int i = 1; i <= 20; i++) {
            Checks.due("stair " + i, x.stair(i % 2 == 0 ? 9999 : 0), i);
        }
        Checks.due("the 21st", x.stair(5), StepClock.FULL);
        Checks.due("BAD first", x.stair(10000), StepClock.BAD);
        Checks.due("count(3)", x.count(3), 20);
        Checks.due("all of it", x.worn(99990, 0, 0), 2);
    }

    private static void worn(StepClock x, int steps, int e, int many, int from, int to) {
        int[] want = {many, from, to};
        for (int what = 0; what < 3; what++) {
            Checks.due("worn(" + steps + ", " + e + ", " + what + ")", x.worn(steps, e, what), want[what]);
        }
    }

    private static void wornRows() {
        StepClock x = new StepClock();
        worn(x, 0, 0, 0, StepClock.NONE, StepClock.NONE);
        int[] days = {100, 200, 0, 300, 50, 50};
        for (int steps : days) {
            x.stair(steps);
        }
        worn(x, 300, 0, 4, 0, 1);
        worn(x, 0, 0, 1, 2, 2);
        worn(x, 100, 0, 2, 0, 0);
        worn(x, 50, 0, 2, 4, 4);
        worn(x, 350, 0, 2, 2, 4);
        worn(x, 400, 0, 2, 2, 5);
        worn(x, 700, 0, 1, 0, 5);
        worn(x, 701, 0, 0, StepClock.NONE, StepClock.NONE);
    }

    private static void wornAtTheEdges() {
        StepClock x = new StepClock();
        x.stair(500);
        x.stair(9999);
        worn(x, 510, 9, 0, StepClock.NONE, StepClock.NONE);
        worn(x, 510, 10, 1, 0, 0);
        worn(x, 490, 9, 0, StepClock.NONE, StepClock.NONE);
        worn(x, 490, 10, 1, 0, 0);
        worn(x, 0, 500, 1, 0, 0);
        worn(x, 9998, 1, 1, 1, 1);
        worn(x, 10000, 999, 2, 0, 1);
        worn(x, 199999, 999, 0, StepClock.NONE, StepClock.NONE);
    }

    private static void refusals() {
        StepClock x = Checks.told(STAIRCASE);
        x.stair(1);
        int[] beyond = {Integer.MAX_VALUE, Integer.MIN_VALUE};
        for (int no : new int[] {0, -1, 10000, beyond[0], beyond[1]}) {
            strike(x, no, 1, StepClock.BAD, StepClock.BAD);
            undone(x, 0, no, 1, StepClock.BAD);
        }
        for (int no : new int[] {0, -1, 241, beyond[0], beyond[1]}) {
            strike(x, 1, no, StepClock.BAD, StepClock.BAD);
            undone(x, 0, 1, no, StepClock.BAD);
        }
        for (int no : new int[] {-1, 2, beyond[0], beyond[1]}) {
            Checks.due("strike(1, 1, " + no + ")", x.strike(1, 1, no), StepClock.BAD);
        }
        for (int no : new int[] {-1, 200000, beyond[0], beyond[1]}) {
            worn(x, no, 0, StepClock.BAD, StepClock.BAD, StepClock.BAD);
        }
        for (int no : new int[] {-1, 1000, beyond[0], beyond[1]}) {
            worn(x, 1, no, StepClock.BAD, StepClock.BAD, StepClock.BAD);
        }
        for (int no : new int[] {-1, 3, beyond[0], beyond[1]}) {
            Checks.due("worn(1, 0, " + no + ")", x.worn(1, 0, no), StepClock.BAD);
        }
        strike(x, 9999, 240, 0, 0);
        undone(x, 0, 9999, 240, StepClock.NONE);
    }
}
