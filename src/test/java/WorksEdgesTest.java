/** Promises 18 to 21: each sentence of the document that names an edge has a test of its own here. */
public final class WorksEdgesTest {
    public static void main(String[] args) {
        endsByFire();
        endsByFireAtTheEnd();
        endsByHours();
        endsByHoursOrAboveThat();
        endsByHoursInTheLastMinute();
        endsBegunAtTheEnd();
        endsAsStepsTells();
        endsOfNoSuchWork();
        endsOfNoSuchMinute();

        oneDayWithoutWorks();
        oneDayThatNoWorkEndsIn();
        oneDayByTheEnd();
        oneDayOfAllSix();
        oneDayTheLeastSet();
        oneDayOfWorksWithoutWorth();
        oneDayOneBehindAnother();
        oneDayEndsAtTheEarliest();
        oneDayAsTold();
        oneDayOtherWhat();

        wagesOfOneToEight();
        wagesStepsByOthers();
        wagesStepsOfAWalk();
        wagesOfAnHour();
        wagesLessForAWalk();
        wagesForEachWholeHour();
        wagesNobodyWouldHaveMore();
        wagesNobodyWalksOrAllDo();
        wagesLeastAndGreatest();
        wagesBestForAll();
        wagesBestOfSeveralTheLeast();
        wagesOfTheMostThereMayBe();
        wagesByTheClockOfTheDay();
        wagesOtherWhat();

        evenHourOfAMinute();
        evenTheClocks();
        evenTheSame();
        evenTheLastOfThem();
        evenOfNoSuchMinute();
        evenAsTold();
        evenOtherWhat();
        Checks.end("WorksEdgesTest", 18, 21);
    }

    // ---- promise 18

    private static void endsByFire() {
        Checks.sentence(18, "ENDS: by FIRE D minutes later");
        StepClock x = Checks.told("work fire 1 1;work fire 100 1;work fire 240 1;");
        Checks.due("ends(0, 0)", x.ends(0, 0), 1);
        Checks.due("ends(0, 99)", x.ends(0, 99), 100);
        Checks.due("ends(1, 0)", x.ends(1, 0), 100);
        Checks.due("ends(1, 17)", x.ends(1, 17), 117);
        Checks.due("ends(2, 0)", x.ends(2, 0), 240);
    }

    private static void endsByFireAtTheEnd() {
        Checks.sentence(18, "NONE: not by 240");
        StepClock x = Checks.told("work fire 1 1;work fire 100 1;work fire 240 1;");
        Checks.due("ends(0, 239)", x.ends(0, 239), 240);
        Checks.due("ends(0, 240)", x.ends(0, 240), StepClock.NONE);
        Checks.due("ends(1, 140)", x.ends(1, 140), 240);
        Checks.due("ends(1, 141)", x.ends(1, 141), StepClock.NONE);
        Checks.due("ends(2, 1)", x.ends(2, 1), StepClock.NONE);
        Checks.due("ends(2, 240)", x.ends(2, 240), StepClock.NONE);
    }

    private static void endsByHours() {
        Checks.sentence(18, "by HOURS at the least t, so that STEPS behind t MINUTES (as steps() tells) are D more than behind m");
        StepClock x = Checks.told("march 10 3 10;work hours 1 1;work hours 10 1;work hours 30 1;");
        int[][] rows = {{0, 0, 11}, {0, 10, 11}, {0, 11, 12}, {0, 12, 13}, {1, 0, 11}, {1, 11, 12}, {2, 0, 13}, {2, 10, 13}};
        for (int[] row : rows) {
            Checks.due("ends(" + row[0] + ", " + row[1] + ")", x.ends(row[0], row[1]), row[2]);
        }
    }

    private static void endsByHoursOrAboveThat() {
        Checks.sentence(18, "or above that; NONE: not by 240");
        StepClock x = Checks.told("march 10 3 10;work hours 9 1;work hours 11 1;work hours 29 1;work hours 31 1;work hours 999 1;");
        Checks.due("9", x.ends(0, 0), 11);
        Checks.due("11", x.ends(1, 0), 12);
        Checks.due("29", x.ends(2, 0), 13);
        Checks.due("31", x.ends(3, 0), StepClock.NONE);
        Checks.due("999", x.ends(4, 0), StepClock.NONE);
        Checks.due("29, begun in between", x.ends(2, 11), StepClock.NONE);
        Checks.due("11, begun in between", x.ends(1, 11), 13);
    }

    private static void endsByHoursInTheLastMinute() {
        Checks.sentence(18, "NONE: not by 240");
        StepClock x = Checks.told("march 239 1 999;work hours 999 1;");
        Checks.due("ends(0, 0)", x.ends(0, 0), 240);
        Checks.due("ends(0, 239)", x.ends(0, 239), 240);
        StepClock less = Checks.told("march 239 1 998;work hours 999 1;");
        Checks.due("a step too few", less.ends(0, 0), StepClock.NONE);
    }

    private static void endsBegunAtTheEnd() {
        Checks.sentence(18, "WORK w begun at MINUTE m (0 .. 240) ENDS");
        StepClock x = Checks.told("march 0 240 999;work hours 1 1;work fire 1 1;");
        Checks.due("ends(0, 240)", x.ends(0, 240), StepClock.NONE);
        Checks.due("ends(1, 240)", x.ends(1, 240), StepClock.NONE);
        Checks.due("ends(0, 239)", x.ends(0, 239), 240);
    }

    private static void endsAsStepsTells() {
        Checks.sentence(18, "(as steps() tells)");
        StepClock x = Checks.told("person;go 0 10 5;work hours 10 1;");
        x.sits(1);
        x.one(9999);
        x.go(50);
        Checks.due("neither ONE nor who sits now", x.ends(0, 0), 2);
        Checks.due("begun behind the last step", x.ends(0, 2), StepClock.NONE);
    }

    private static void endsOfNoSuchWork() {
        Checks.sentence(18, "ENDS; NONE. BAD.");
        Refused.badNumbers("ends(w, 0)", Refused::busy, (x, w) -> x.ends(w, 0), 2, 3, 6);
        Refused.badNumbers("ends(w, 240) of a new object", StepClock::new, (x, w) -> x.ends(w, 240), 0);
        StepClock six = Checks.told("work fire 7 1;".repeat(6));
        Checks.due("ends(5, 0)", six.ends(5, 0), 7);
        Checks.due("ends(6, 0)", six.ends(6, 0), StepClock.BAD);
    }

    private static void endsOfNoSuchMinute() {
        Checks.sentence(18, "begun at MINUTE m (0 .. 240)");
        Refused.badNumbers("ends(0, m)", Refused::busy, (x, m) -> x.ends(0, m), 241, 242);
        Refused.badNumbers("ends(1, m)", Refused::busy, (x, m) -> x.ends(1, m), 241, 242);
    }

    // ---- promise 19

    private static void day(StepClock x, int worth, int set, int end) {
        Checks.due("oneDay(0)", x.oneDay(0), worth);
        Checks.due("oneDay(1)", x.oneDay(1), set);
        Checks.due("oneDay(2)", x.oneDay(2), end);
    }

    private static void oneDayWithoutWorks() {
        Checks.sentence(19, "ONE DAY: WORTH (what = 0), the set (1), when it ends (2)");
        day(new StepClock(), 0, 0, 0);
        day(Checks.told("march 0 240 999;"), 0, 0, 0);
    }

    private static void oneDayThatNoWorkEndsIn() {
        Checks.sentence(19, "the greatest WORTH of those that end by 240");
        day(Checks.told("work hours 1 99;".repeat(6)), 0, 0, 0);
        day(Checks.told("march 239 1 1;work hours 2 99;work hours 1 9;"), 9, 2, 240);
    }

    private static void oneDayByTheEnd() {
        Checks.sentence(19, "of those that end by 240");
        day(Checks.told("work fire 240 1;"), 1, 1, 240);
        day(Checks.told("work fire 140 1;work fire 100 1;"), 2, 3, 240);
        day(Checks.told("work fire 140 1;work fire 101 2;"), 2, 2, 101);
        day(Checks.told("work fire 240 1;work fire 1 1;"), 1, 1, 240);
    }

    private static void oneDayOfAllSix() {
        Checks.sentence(19, "the greatest WORTH of those that end by 240");
        day(Checks.told("work fire 40 99;".repeat(6)), 594, 63, 240);
        day(Checks.told("work fire 40 99;".repeat(5) + "work fire 41 99;"), 495, 31, 200);
        day(Checks.told("work fire 41 98;" + "work fire 40 99;".repeat(5)), 495, 62, 200);
    }

    private static void oneDayTheLeastSet() {
        Checks.sentence(19, "the set (of several the least)");
        day(Checks.told("work fire 200 5;work fire 200 5;"), 5, 1, 200);
        day(Checks.told("work fire 100 5;work fire 200 5;work fire 100 5;"), 10, 5, 200);
        day(Checks.told("work fire 100 1;work fire 100 1;work fire 200 2;"), 2, 3, 200);
        day(Checks.told("work fire 239 2;work fire 100 1;work fire 100 1;"), 2, 1, 239);
    }

    private static void oneDayOfWorksWithoutWorth() {
        Checks.sentence(19, "the set (of several the least)");
        day(Checks.told("work fire 1 0;work fire 1 0;"), 0, 0, 0);
        day(Checks.told("work fire 1 0;work fire 7 4;work fire 1 0;"), 4, 2, 7);
    }

    private static void oneDayOneBehindAnother() {
        Checks.sentence(19, "WORKS one behind another, each from the end of the one ahead (the first from 0)");
        // The steps are there in the first ten minutes alone: the work by hours must be the first.
        day(Checks.told("march 0 10 10;work fire 50 10;work hours 100 10;"), 20, 3, 60);
        // Two by hours can't have the same steps.
        day(Checks.told("march 0 10 10;work hours 100 10;work hours 1 9;"), 10, 1, 10);
        day(Checks.told("march 0 10 10;work hours 50 10;work hours 50 9;"), 19, 3, 10);
        day(Checks.told("march 0 10 10;work hours 51 10;work hours 41 9;"), 10, 1, 6);
        day(Checks.told("march 0 10 10;work hours 51 10;work hours 40 9;"), 19, 3, 10);
    }

    private static void oneDayEndsAtTheEarliest() {
        Checks.sentence(19, "when that set ends at the earliest");
        // The fire first: it burns while nobody walks.
        day(Checks.told("march 60 10 10;work hours 100 10;work fire 60 10;"), 20, 3, 70);
        day(Checks.told("march 60 10 10;work fire 60 10;work hours 100 10;"), 20, 3, 70);
        day(Checks.told("march 60 10 10;work fire 61 10;work hours 100 10;"), 20, 3, 131);
        // In between the two by hours.
        day(Checks.told("march 0 5 10;march 100 5 10;work hours 50 1;work hours 50 1;work fire 95 1;"), 3, 7, 105);
    }

    private static void oneDayAsTold() {
        Checks.sentence(19, "(the first from 0)");
        StepClock x = Checks.told("person;go 0 10 5;work hours 10 3;work fire 200 2;");
        x.sits(1);
        x.go(100);
        day(x, 5, 3, 202);
    }

    private static void oneDayOtherWhat() {
        Checks.sentence(19, "when it ends (2). BAD.");
        Refused.badNumbers("oneDay(what)", Refused::busy, StepClock::oneDay, 3, 4);
        Refused.badNumbers("oneDay(what) of a new object", StepClock::new, StepClock::oneDay, 3);
    }

    // ---- promise 20: K is 90, unless told

    private static void wages(StepClock x, int[] told, int... want) {
        for (int what = 0; what < 4; what++) {
            Checks.due("wages(.., " + what + ") of " + java.util.Arrays.toString(told),
                    x.wages(told[0], told[1], told[2], told[3], told[4], what), want[what]);
        }
    }

    /** The numbers told of wages(2, 100, 45, 9, 4, ..), but one of them another: BAD, whatever is asked. */
    private static void badWages(int place, int... beside) {
        for (int what = 0; what < 4; what++) {
            int asked = what;
            Refused.badNumbers("wages(.., " + what + "), number " + place, Refused::busy, (x, no) -> {
                int[] told = {2, 100, 45, 9, 4};
                told[place] = no;
                return x.wages(told[0], told[1], told[2], told[3], told[4], asked);
            }, beside);
        }
    }

    private static void wagesOfOneToEight() {
        Checks.sentence(20, "WAGES: n who are alike (1 .. 8)");
        badWages(0, 0, 9);
        wages(new StepClock(), new int[] {1, 0, 90, 2, 1}, 1, 1, 1, 1);
        wages(new StepClock(), new int[] {8, 0, 90, 2, 1}, 8, 8, 1, 8);
    }

    private static void wagesStepsByOthers() {
        Checks.sentence(20, "B STEPS by others (0 .. 9999)");
        badWages(1, 10000);
        wages(new StepClock(), new int[] {1, 0, 89, 2, 1}, 0, 0, 1, 0);
        wages(new StepClock(), new int[] {1, 1, 89, 2, 1}, 1, 1, 1, 1);
        wages(new StepClock(), new int[] {1, 9999, 80, 2, 1}, 0, 0, 1, 0);
        wages(new StepClock(), new int[] {1, 9999, 81, 2, 1}, 1, 1, 1, 1);
    }

    private static void wagesStepsOfAWalk() {
        Checks.sentence(20, "each one sits, or walks N STEPS (1 .. 999)");
        badWages(2, 0, 1000);
        wages(new StepClock(), new int[] {1, 89, 1, 2, 1}, 1, 1, 1, 1);
        wages(new StepClock(), new int[] {1, 88, 1, 2, 1}, 0, 0, 1, 0);
        wages(Checks.told("clock 999;"), new int[] {1, 0, 999, 2, 1}, 1, 1, 1, 1);
    }

    private static void wagesOfAnHour() {
        Checks.sentence(20, "each has W (0 .. 99) for each whole HOUR of the clock");
        badWages(3, 100);
        wages(new StepClock(), new int[] {2, 0, 90, 0, 1}, 0, 0, 1, 0);
        wages(new StepClock(), new int[] {2, 0, 90, 0, 0}, 0, 2, 3, 0);
        wages(new StepClock(), new int[] {2, 0, 90, 99, 98}, 2, 2, 1, 2);
    }

    private static void wagesLessForAWalk() {
        Checks.sentence(20, "T (0 .. 99) less, if that one walks");
        badWages(4, 100);
        wages(new StepClock(), new int[] {2, 0, 90, 99, 0}, 2, 2, 1, 2);
        wages(new StepClock(), new int[] {2, 0, 90, 49, 99}, 0, 0, 1, 0);
        wages(new StepClock(), new int[] {2, 0, 90, 50, 99}, 0, 0, 1, 2);
        wages(new StepClock(), new int[] {2, 0, 90, 98, 99}, 0, 0, 1, 2);
        wages(new StepClock(), new int[] {2, 0, 90, 99, 99}, 0, 2, 3, 2);
    }

    private static void wagesForEachWholeHour() {
        Checks.sentence(20, "for each whole HOUR of the clock");
        // Two walk 45 each: only both together make an hour.
        wages(new StepClock(), new int[] {2, 0, 45, 10, 4}, 0, 2, 2, 2);
        wages(new StepClock(), new int[] {2, 0, 44, 10, 4}, 0, 0, 1, 0);
        wages(new StepClock(), new int[] {2, 0, 46, 10, 4}, 0, 2, 2, 2);
        wages(new StepClock(), new int[] {1, 0, 180, 2, 3}, 1, 1, 1, 1);
    }

    private static void wagesNobodyWouldHaveMore() {
        Checks.sentence(20, "A REST: k that walk, so that nobody would have more by the other thing alone");
        wages(new StepClock(), new int[] {1, 0, 90, 5, 4}, 1, 1, 1, 1);
        wages(new StepClock(), new int[] {1, 0, 90, 5, 5}, 0, 1, 2, 0);
        wages(new StepClock(), new int[] {1, 0, 90, 5, 6}, 0, 0, 1, 0);
    }

    private static void wagesNobodyWalksOrAllDo() {
        Checks.sentence(20, "A REST: k that walk");
        // For nobody and for all there is but one other thing to do.
        wages(new StepClock(), new int[] {3, 0, 1, 99, 0}, 0, 3, 4, 0);
        wages(new StepClock(), new int[] {3, 0, 90, 99, 0}, 3, 3, 1, 3);
        wages(new StepClock(), new int[] {3, 0, 1, 99, 1}, 0, 0, 1, 0);
        wages(new StepClock(), new int[] {3, 0, 30, 99, 1}, 0, 3, 2, 3);
    }

    private static void wagesLeastAndGreatest() {
        Checks.sentence(20, "RESTS: the least k, the greatest k; how many k; NONE.");
        wages(new StepClock(), new int[] {5, 0, 30, 10, 4}, 0, 3, 2, 3);
        wages(new StepClock(), new int[] {5, 80, 30, 10, 4}, 1, 4, 2, 4);
        wages(new StepClock(), new int[] {8, 0, 1, 0, 0}, 0, 8, 9, 0);
        wages(new StepClock(), new int[] {8, 0, 45, 5, 5}, 0, 8, 5, 8);
    }

    private static void wagesBestForAll() {
        Checks.sentence(20, "BEST for all: the k by which they have the most together");
        // One alone would not walk for it, but all together have more.
        wages(new StepClock(), new int[] {8, 0, 90, 5, 6}, 0, 0, 1, 8);
        wages(new StepClock(), new int[] {8, 0, 90, 5, 40}, 0, 0, 1, 0);
        wages(new StepClock(), new int[] {8, 0, 90, 5, 39}, 0, 0, 1, 8);
        wages(new StepClock(), new int[] {8, 0, 90, 5, 41}, 0, 0, 1, 0);
        wages(new StepClock(), new int[] {8, 0, 80, 5, 6}, 0, 0, 1, 8);
    }

    private static void wagesBestOfSeveralTheLeast() {
        Checks.sentence(20, "of several the least");
        wages(new StepClock(), new int[] {2, 0, 45, 1, 1}, 0, 2, 2, 0);
        wages(new StepClock(), new int[] {4, 90, 1, 9, 0}, 0, 4, 5, 0);
        wages(new StepClock(), new int[] {4, 89, 1, 9, 0}, 1, 4, 4, 1);
    }

    private static void wagesOfTheMostThereMayBe() {
        Checks.sentence(20, "WAGES: n who are alike (1 .. 8), B STEPS by others (0 .. 9999)");
        wages(new StepClock(), new int[] {8, 9999, 999, 99, 99}, 8, 8, 1, 8);
        wages(Checks.told("clock 10;"), new int[] {8, 9999, 999, 99, 99}, 8, 8, 1, 8);
        wages(new StepClock(), new int[] {8, 9999, 999, 0, 99}, 0, 0, 1, 0);
        wages(new StepClock(), new int[] {1, 0, 1, 0, 0}, 0, 1, 2, 0);
    }

    private static void wagesByTheClockOfTheDay() {
        Checks.sentence(20, "for each whole HOUR of the clock");
        StepClock x = Checks.told("clock 10;person;go 0 999 99;march 0 240 999;");
        x.one(9999);
        x.go(100);
        wages(x, new int[] {1, 0, 10, 2, 1}, 1, 1, 1, 1);
        wages(x, new int[] {1, 0, 9, 2, 1}, 0, 0, 1, 0);
    }

    private static void wagesOtherWhat() {
        Checks.sentence(20, "BEST for all (3); NONE (0, 1). BAD.");
        Refused.badNumbers("wages(2, 100, 45, 9, 4, what)", Refused::busy, (x, what) -> x.wages(2, 100, 45, 9, 4, what), 4, 5);
    }

    // ---- promise 21

    private static void evenHourOfAMinute() {
        Checks.sentence(21, "EVEN hours have 60 minutes: at t: the even HOUR (t by 60)");
        StepClock x = Checks.told("clock 10;march 0 240 999;");
        for (int t = 0; t <= 240; t++) {
            Checks.due("even(" + t + ", 0)", x.even(t, 0), t < 60 ? 0 : t < 120 ? 1 : t < 180 ? 2 : t < 240 ? 3 : 4);
        }
    }

    private static void evenTheClocks() {
        Checks.sentence(21, "at t: the even HOUR (what = 0), the clock's (1)");
        StepClock x = Checks.told("clock 10;march 0 1 9;march 10 1 1;march 239 1 35;");
        int[][] rows = {{0, 0}, {1, 0}, {10, 0}, {11, 1}, {239, 1}, {240, 4}};
        for (int[] row : rows) {
            Checks.due("even(" + row[0] + ", 1)", x.even(row[0], 1), row[1]);
        }
    }

    private static void evenTheSame() {
        Checks.sentence(21, "SAME: at how many of MINUTES 0 .. 240 both are alike; the last of them (NONE)");
        Checks.due("a clock that stands", new StepClock().even(0, 2), 60);
        Checks.due("a clock that is even", Checks.told("clock 60;march 0 240 1;").even(0, 2), 241);
        Checks.due("minute 0 alone", Checks.told("clock 10;march 0 1 50;").even(0, 2), 1);
        Checks.due("minute 240, too", Checks.told("clock 10;march 0 1 10;march 239 1 30;").even(0, 2), 1 + 60 + 1);
        Checks.due("all but minute 240", Checks.told("clock 60;march 0 239 1;").even(0, 2), 240);
    }

    private static void evenTheLastOfThem() {
        Checks.sentence(21, "how many are the SAME (2), the last (3; NONE)");
        Checks.due("a clock that stands", new StepClock().even(0, 3), 59);
        Checks.due("a clock that is even", Checks.told("clock 60;march 0 240 1;").even(0, 3), 240);
        Checks.due("minute 0 alone", Checks.told("clock 10;march 0 1 50;").even(0, 3), 0);
        Checks.due("minute 239", Checks.told("clock 60;march 0 239 1;").even(0, 3), 239);
        Checks.due("minute 240", Checks.told("clock 10;march 0 1 10;march 239 1 30;").even(0, 3), 240);
    }

    private static void evenOfNoSuchMinute() {
        Checks.sentence(21, "(t as told, whatever). BAD.");
        for (int what = 0; what < 4; what++) {
            int asked = what;
            Refused.badNumbers("even(t, " + what + ")", Refused::busy, (x, t) -> x.even(t, asked), 241, 242);
        }
        StepClock x = Checks.told("clock 60;march 0 239 1;");
        for (int t : new int[] {0, 1, 60, 239, 240}) {
            Checks.due("even(" + t + ", 2)", x.even(t, 2), 240);
            Checks.due("even(" + t + ", 3)", x.even(t, 3), 239);
        }
    }

    private static void evenAsTold() {
        Checks.sentence(21, "at t: the even HOUR (t by 60), and the clock's");
        StepClock x = Checks.told("clock 10;person;go 0 10 5;");
        x.sits(1);
        x.one(9999);
        x.go(70);
        Checks.due("neither ONE nor who sits now", x.even(240, 1), 1);
        Checks.due("even(0, 2)", x.even(0, 2), 2 + 60);
        Checks.due("even(0, 3)", x.even(0, 3), 119);
    }

    private static void evenOtherWhat() {
        Checks.sentence(21, "how many are the SAME (2), the last (3; NONE) (t as told, whatever). BAD.");
        Refused.badNumbers("even(0, what)", Refused::busy, (x, what) -> x.even(0, what), 4, 5);
        Refused.badNumbers("even(240, what)", Refused::atTheEnd, (x, what) -> x.even(240, what), 4);
    }
}
