/** Promises 18 to 21. */
public final class WorksTest {
    public static void main(String[] args) {
        endsByFire();
        endsByHours();
        oneDay();
        setsThatAreWorthTheSame();
        theOrderCounts();
        wagesOfFive();
        wagesAtTheEdges();
        wagesByTheClockOfTheDay();
        evenHours();
        refusals();
        Checks.end("WorksTest");
    }

    private static void endsByFire() {
        StepClock x = Checks.told("work fire 1 1;work fire 240 1;");
        Checks.due("ends(0, 0)", x.ends(0, 0), 1);
        Checks.due("ends(0, 239)", x.ends(0, 239), 240);
        Checks.due("ends(0, 240)", x.ends(0, 240), StepClock.NONE);
        Checks.due("ends(1, 0)", x.ends(1, 0), 240);
        Checks.due("ends(1, 1)", x.ends(1, 1), StepClock.NONE);
    }

    private static void endsByHours() {
        StepClock x = Checks.told("clock 10;march 3 4 5;work hours 10 1;work hours 11 1;work hours 20 1;work hours 21 1;");
        Checks.due("just as many", x.ends(0, 0), 5);
        Checks.due("or above that", x.ends(1, 0), 6);
        Checks.due("begun in between", x.ends(0, 4), 6);
        Checks.due("all of them", x.ends(2, 0), 7);
        Checks.due("all of them, begun at 3", x.ends(2, 3), 7);
        Checks.due("begun too late", x.ends(2, 4), StepClock.NONE);
        Checks.due("never", x.ends(3, 0), StepClock.NONE);
        Checks.due("ends(0, 240)", x.ends(0, 240), StepClock.NONE);
        StepClock last = Checks.told("march 239 1 10;work hours 10 1;");
        Checks.due("in the last minute", last.ends(0, 239), 240);
    }

    private static void day(StepClock x, int worth, int set, int end) {
        Checks.due("oneDay(0)", x.oneDay(0), worth);
        Checks.due("oneDay(1)", x.oneDay(1), set);
        Checks.due("oneDay(2)", x.oneDay(2), end);
    }

    private static void oneDay() {
        day(new StepClock(), 0, 0, 0);
        day(Checks.told("work fire 240 7;"), 7, 1, 240);
        day(Checks.told("work fire 120 7;work fire 120 8;work fire 1 9;"), 17, 6, 121);
        day(Checks.told("work fire 100 10;work fire 100 20;work fire 100 30;work fire 40 5;"), 55, 14, 240);
        day(Checks.told("work hours 1 99;"), 0, 0, 0);
        day(Checks.told("work fire 40 99;".repeat(6)), 594, 63, 240);
        day(Checks.told("work fire 41 99;".repeat(6)), 495, 31, 205);
    }

    private static void setsThatAreWorthTheSame() {
        day(Checks.told("work fire 200 5;work fire 10 5;work fire 200 5;"), 10, 3, 210);
        day(Checks.told("work fire 5 0;work fire 6 3;"), 3, 2, 6);
        day(Checks.told("work fire 5 0;work fire 6 0;"), 0, 0, 0);
        // One work of the highest bit against two below it: the least set, not the one of fewest works.
        day(Checks.told("work fire 100 5;work fire 100 5;work fire 200 10;"), 10, 3, 200);
    }

    private static void theOrderCounts() {
        // The work by hours has steps in the first minutes alone, so that it must be the first.
        day(Checks.told("march 0 10 10;work fire 50 10;work hours 100 10;"), 20, 3, 60);
        // It has its steps late: the fire is burnt while nobody walks.
        day(Checks.told("march 60 10 10;work hours 100 10;work fire 60 10;"), 20, 3, 70);
        day(Checks.told("march 0 5 10;march 100 5 10;work hours 50 1;work hours 50 1;work fire 95 1;"), 3, 7, 105);
    }

    private static void wages(StepClock x, int[] told, int... want) {
        for (int what = 0; what < 4; what++) {
            Checks.due("wages(.., " + what + ") of " + java.util.Arrays.toString(told),
                    x.wages(told[0], told[1], told[2], told[3], told[4], what), want[what]);
        }
    }

    private static void wagesOfFive() {
        StepClock x = new StepClock();
        wages(x, new int[] {5, 0, 30, 10, 4}, 0, 3, 2, 3);
        wages(x, new int[] {5, 80, 30, 10, 4}, 1, 4, 2, 4);
        wages(x, new int[] {3, 0, 1, 99, 0}, 0, 3, 4, 0);
    }

    private static void wagesAtTheEdges() {
        StepClock x = new StepClock();
        wages(x, new int[] {8, 9999, 999, 99, 99}, 8, 8, 1, 8);
        wages(x, new int[] {1, 60, 30, 10, 10}, 0, 1, 2, 0);
        wages(x, new int[] {1, 60, 30, 10, 11}, 0, 0, 1, 0);
        wages(x, new int[] {1, 60, 30, 10, 9}, 1, 1, 1, 1);
        wages(x, new int[] {8, 0, 1, 0, 0}, 0, 8, 9, 0);
        wages(x, new int[] {8, 0, 90, 5, 5}, 0, 8, 9, 8);
        wages(x, new int[] {8, 0, 90, 5, 6}, 0, 0, 1, 8);
        wages(x, new int[] {2, 0, 45, 1, 1}, 0, 2, 2, 0);
        wages(x, new int[] {2, 0, 45, 1, 2}, 0, 0, 1, 0);
    }

    private static void wagesByTheClockOfTheDay() {
        StepClock x = Checks.told("clock 999;");
        wages(x, new int[] {1, 0, 999, 2, 1}, 1, 1, 1, 1);
        wages(x, new int[] {1, 0, 998, 2, 1}, 0, 0, 1, 0);
    }

    private static void evenHours() {
        StepClock x = Checks.told("clock 10;march 30 1 10;march 90 1 10;march 200 1 20;");
        int[][] want = {{0, 0, 0}, {30, 0, 0}, {31, 0, 1}, {59, 0, 1}, {60, 1, 1}, {90, 1, 1}, {91, 1, 2}, {119, 1, 2},
            {120, 2, 2}, {180, 3, 2}, {200, 3, 2}, {201, 3, 4}, {239, 3, 4}, {240, 4, 4}};
        for (int[] row : want) {
            Checks.due("even(" + row[0] + ", 0)", x.even(row[0], 0), row[1]);
            Checks.due("even(" + row[0] + ", 1)", x.even(row[0], 1), row[2]);
            Checks.due("even(" + row[0] + ", 2)", x.even(row[0], 2), 31 + 31 + 60 + 1);
            Checks.due("even(" + row[0] + ", 3)", x.even(row[0], 3), 240);
        }
        StepClock y = Checks.told("clock 10;march 0 1 50;");
        Checks.due("only minute 0", y.even(0, 2), 1);
        Checks.due("the last of them", y.even(240, 3), 0);
    }

    private static void refusals() {
        StepClock x = Checks.told("work fire 1 1;");
        int[] beyond = {Integer.MAX_VALUE, Integer.MIN_VALUE};
        for (int no : new int[] {-1, 1, 6, beyond[0], beyond[1]}) {
            Checks.due("ends(" + no + ", 0)", x.ends(no, 0), StepClock.BAD);
        }
        for (int no : new int[] {-1, 241, beyond[0], beyond[1]}) {
            Checks.due("ends(0, " + no + ")", x.ends(0, no), StepClock.BAD);
            for (int what = 0; what < 4; what++) {
                Checks.due("even(" + no + ", " + what + ")", x.even(no, what), StepClock.BAD);
            }
        }
        for (int no : new int[] {-1, 4, beyond[0], beyond[1]}) {
            Checks.due("even(0, " + no + ")", x.even(0, no), StepClock.BAD);
            Checks.due("wages(what " + no + ")", x.wages(1, 0, 1, 1, 1, no), StepClock.BAD);
        }
        for (int no : new int[] {-1, 3, beyond[0], beyond[1]}) {
            Checks.due("oneDay(" + no + ")", x.oneDay(no), StepClock.BAD);
        }
        int[][] no = {{0, 0, 1, 1, 1}, {9, 0, 1, 1, 1}, {1, -1, 1, 1, 1}, {1, 10000, 1, 1, 1}, {1, 0, 0, 1, 1},
            {1, 0, 1000, 1, 1}, {1, 0, 1, -1, 1}, {1, 0, 1, 100, 1}, {1, 0, 1, 1, -1}, {1, 0, 1, 1, 100}};
        for (int[] row : no) {
            wages(x, row, StepClock.BAD, StepClock.BAD, StepClock.BAD, StepClock.BAD);
        }
    }
}
