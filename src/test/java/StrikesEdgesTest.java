/** Promises 22 to 25: each sentence of the document that names an edge has a test of its own here. */
public final class StrikesEdgesTest {
    public static void main(String[] args) {
        strikeTheFewest();
        strikeOfSeveralTheLeast();
        strikeOfAllSix();
        strikeThatNobodyNeeds();
        strikeThatNobodyCan();
        strikeByTheMinute();
        strikeFromMinuteZero();
        strikeOfThoseWhomOthersWaitFor();
        strikeOfNoOtherHour();
        strikeOfNoOtherMinute();
        strikeAsTold();
        strikeOtherWhat();

        undoneByNoStep();
        undoneByTheFewest();
        undoneByTheMost();
        undoneAtMinuteZero();
        undoneByThoseWhoWait();
        undoneWithASetSitting();
        undoneByTheMinute();
        undoneOfNoOtherHour();
        undoneOfNoOtherMinute();
        undoneAsTold();

        stairOfTwentyDays();
        stairBeyondTwentyDays();
        stairIsBadAheadOfFull();
        stairOfOtherSteps();
        stairOfNoSteps();

        wornOfNoDays();
        wornOneDayAtLeast();
        wornDaysOneBehindAnother();
        wornToE();
        wornBelowNothing();
        wornTheFirstOfSeveral();
        wornOfAllThereMayBe();
        wornByOtherSteps();
        wornToOtherE();
        wornOtherWhat();
        Checks.end("StrikesEdgesTest", 22, 25);
    }

    // ---- promise 22

    private static void strike(StepClock x, int h, int t, int set, int many) {
        Checks.due("strike(" + h + ", " + t + ", 0)", x.strike(h, t, 0), set);
        Checks.due("strike(" + h + ", " + t + ", 1)", x.strike(h, t, 1), many);
    }

    private static void strikeTheFewest() {
        Checks.sentence(22, "STRIKE: the fewest PEOPLE that must sit");
        // The last alone is a greater set than both others together, and still the fewer.
        strike(Checks.told("clock 10;person;go 0 3 3;person;go 0 3 3;person;go 0 9 9;"), 1, 9, 4, 1);
        strike(Checks.told("clock 10;person;go 0 4 4;person;go 0 4 4;person;go 0 4 4;"), 1, 9, 1, 1);
        strike(Checks.told("clock 10;person;go 0 5 5;person;go 0 5 5;person;go 0 5 5;"), 1, 9, 3, 2);
    }

    private static void strikeOfSeveralTheLeast() {
        Checks.sentence(22, "the set (of several the least); NONE");
        strike(Checks.told("clock 10;person;go 0 10 9;person;go 0 10 9;"), 2, 9, 1, 1);
        strike(Checks.told("clock 10;person;" + "person;go 0 10 9;".repeat(2)), 2, 9, 2, 1);
        strike(Checks.told("clock 10;person;" + "person;go 0 10 9;".repeat(3)), 2, 9, 6, 2);
        strike(Checks.told("clock 10;" + "person;go 0 10 9;".repeat(3) + "person;"), 1, 9, 7, 3);
    }

    private static void strikeOfAllSix() {
        Checks.sentence(22, "the fewest PEOPLE that must sit");
        StepClock x = Checks.told("clock 10;" + "person;go 0 10 10;".repeat(6));
        int[] sets = {63, 31, 15, 7, 3, 1, 0};
        for (int h = 1; h <= sets.length; h++) {
            strike(x, h, 240, sets[h - 1], Integer.bitCount(sets[h - 1]));
        }
        strike(Checks.told("clock 10;" + "person;go 0 9 9;".repeat(5) + "person;go 0 99 99;"), 5, 240, 32, 1);
    }

    private static void strikeThatNobodyNeeds() {
        Checks.sentence(22, "so that HOUR h does not come by t (1 .. 240): the set");
        strike(new StepClock(), 1, 240, 0, 0);
        strike(new StepClock(), 9999, 1, 0, 0);
        strike(Checks.told("clock 10;person;go 0 9 9;"), 1, 240, 0, 0);
        strike(Checks.told("clock 10;march 0 1 9;person;"), 1, 240, 0, 0);
    }

    private static void strikeThatNobodyCan() {
        Checks.sentence(22, "STRIKE: the set (what = 0), how many (1); NONE.");
        StepClock x = Checks.told("clock 10;march 0 10 1;person;go 0 5 5;");
        strike(x, 1, 10, StepClock.NONE, StepClock.NONE);
        strike(x, 1, 240, StepClock.NONE, StepClock.NONE);
        strike(x, 1, 9, 1, 1);
        strike(x, 2, 240, 0, 0);
        strike(Checks.told("clock 10;march 239 1 10;"), 1, 240, StepClock.NONE, StepClock.NONE);
        strike(Checks.told("clock 10;march 239 1 10;"), 1, 239, 0, 0);
        strike(Checks.told("clock 10;march 0 1 999;"), 99, 1, StepClock.NONE, StepClock.NONE);
        strike(Checks.told("clock 10;march 0 1 999;"), 100, 1, 0, 0);
    }

    private static void strikeByTheMinute() {
        Checks.sentence(22, "does not come by t (1 .. 240)");
        StepClock x = Checks.told("clock 10;person;go 0 10 10;person;go 100 10 10;person;go 239 10 10;");
        strike(x, 1, 1, 1, 1);
        strike(x, 1, 100, 1, 1);
        strike(x, 1, 101, 3, 2);
        strike(x, 1, 239, 3, 2);
        strike(x, 1, 240, 7, 3);
        strike(x, 3, 239, 0, 0);
        strike(x, 3, 240, 1, 1);
    }

    private static void strikeFromMinuteZero() {
        Checks.sentence(22, "that must sit from MINUTE 0 on");
        StepClock x = Checks.told("clock 10;person;go 0 10 10;person;go 0 20 10;");
        x.go(240);
        strike(x, 1, 1, 3, 2);
        strike(x, 2, 1, 1, 1);
        strike(x, 3, 2, 1, 1);
    }

    private static void strikeOfThoseWhomOthersWaitFor() {
        Checks.sentence(22, "the fewest PEOPLE that must sit from MINUTE 0 on so that HOUR h does not come");
        StepClock x = Checks.told("clock 10;person;wait 1 30 10;person;wait 1 30 10;person;go 0 10 10;");
        strike(x, 2, 240, 4, 1);
        strike(x, 7, 240, 1, 1);
        strike(x, 3, 3, 4, 1);
        strike(x, 3, 2, 1, 1);
        strike(x, 4, 2, 0, 0);
    }

    private static void strikeOfNoOtherHour() {
        Checks.sentence(22, "how many (1); NONE. BAD (h 1 .. 9999).");
        for (int what = 0; what < 2; what++) {
            int asked = what;
            Refused.badNumbers("strike(h, 9, " + what + ")", Refused::busy, (x, h) -> x.strike(h, 9, asked), 0, 10000);
        }
        strike(Refused.busy(), 9999, 240, 0, 0);
        StepClock far = Checks.told("clock 10;" + "march 0 240 999;".repeat(4) + "person;go 0 999 99;");
        strike(far, 9999, 25, 1, 1);
        strike(far, 9999, 26, StepClock.NONE, StepClock.NONE);
    }

    private static void strikeOfNoOtherMinute() {
        Checks.sentence(22, "does not come by t (1 .. 240)");
        for (int what = 0; what < 2; what++) {
            int asked = what;
            Refused.badNumbers("strike(1, t, " + what + ")", Refused::busy, (x, t) -> x.strike(1, t, asked), 0, 241);
        }
    }

    private static void strikeAsTold() {
        Checks.sentence(22, "must sit from MINUTE 0 on");
        StepClock x = Checks.told("clock 10;person;go 0 10 5;person;go 0 10 5;");
        x.sits(1);
        x.one(9999);
        strike(x, 1, 240, 3, 2);
        strike(x, 2, 240, 1, 1);
        Checks.due("who sits stays", x.now(4), 1);
        Checks.due("STEPS stay", x.now(1), 9999);
    }

    private static void strikeOtherWhat() {
        Checks.sentence(22, "STRIKE: the set (what = 0), how many (1); NONE. BAD");
        Refused.badNumbers("strike(1, 9, what)", Refused::busy, (x, what) -> x.strike(1, 9, what), 2, 3);
        Refused.badNumbers("strike(9999, 9, what)", StepClock::new, (x, what) -> x.strike(9999, 9, what), 2);
    }

    // ---- promise 23

    private static void undone(StepClock x, int set, int h, int t, int want) {
        Checks.due("undone(" + set + ", " + h + ", " + t + ")", x.undone(set, h, t), want);
    }

    private static void undoneByNoStep() {
        Checks.sentence(23, "the fewest STEPS at MINUTE 0, at once, by somebody else, so that HOUR h comes by t");
        StepClock x = Checks.told("clock 10;person;go 0 10 5;");
        undone(x, 0, 1, 2, 0);
        undone(x, 0, 1, 240, 0);
        undone(x, 1, 1, 240, 10);
    }

    private static void undoneByTheFewest() {
        Checks.sentence(23, "the fewest STEPS at MINUTE 0");
        StepClock x = Checks.told("clock 10;march 0 1 3;march 50 1 6;");
        undone(x, 0, 1, 1, 7);
        undone(x, 0, 1, 50, 7);
        undone(x, 0, 1, 51, 1);
        undone(x, 0, 2, 51, 11);
        undone(x, 0, 2, 240, 11);
        for (int k = 10; k <= 13; k++) {
            for (int h = 1; h <= 20; h++) {
                undone(Checks.told("clock " + k + ";"), 0, h, 1, h * k);
            }
        }
    }

    private static void undoneByTheMost() {
        Checks.sentence(23, "NONE: more than 9999");
        undone(Checks.told("clock 101;"), 0, 99, 1, 9999);
        undone(Checks.told("clock 100;"), 0, 100, 1, StepClock.NONE);
        undone(Checks.told("clock 100;march 0 1 1;"), 0, 100, 1, 9999);
        undone(Checks.told("clock 100;march 239 1 1;"), 0, 100, 240, 9999);
        undone(Checks.told("clock 100;march 239 1 1;"), 0, 100, 239, StepClock.NONE);
        undone(new StepClock(), 0, 111, 240, 9990);
        undone(new StepClock(), 0, 112, 240, StepClock.NONE);
        undone(Checks.told("clock 999;"), 0, 9999, 240, StepClock.NONE);
    }

    private static void undoneAtMinuteZero() {
        Checks.sentence(23, "at MINUTE 0, at once");
        // At minute 0 they make hour 1 as it begins: who waits walks in it.
        StepClock x = Checks.told("clock 10;person;wait 1 10 10;");
        undone(x, 0, 2, 1, 10);
        undone(x, 1, 2, 1, 20);
        x.go(240);
        undone(x, 0, 2, 1, 10);
    }

    private static void undoneByThoseWhoWait() {
        Checks.sentence(23, "(all that wait go by them)");
        StepClock x = Checks.told("clock 10;person;wait 1 10 5;person;wait 2 10 10;");
        undone(x, 0, 3, 3, 10);
        undone(x, 0, 3, 2, 15);
        undone(x, 0, 3, 1, 20);
        undone(x, 1, 3, 240, 20);
        undone(x, 2, 3, 240, 20);
        undone(x, 3, 3, 240, 30);
    }

    private static void undoneWithASetSitting() {
        Checks.sentence(23, "UNDONE: with a set sitting");
        StepClock x = Checks.told("clock 10;person;go 0 4 4;person;go 0 3 3;");
        int[] want = {3, 7, 6, 10};
        for (int set = 0; set < 4; set++) {
            for (int others : new int[] {0, ~3, 4, 60, Integer.MIN_VALUE}) {
                undone(x, set | others, 1, 1, want[set]);
            }
        }
        undone(x, -1, 1, 1, 10);
        undone(new StepClock(), -1, 1, 1, 90);
    }

    private static void undoneByTheMinute() {
        Checks.sentence(23, "so that HOUR h comes by t");
        StepClock x = Checks.told("clock 10;person;go 0 240 1;");
        for (int t = 1; t <= 240; t++) {
            undone(x, 0, 24, t, 240 - t);
        }
    }

    private static void undoneOfNoOtherHour() {
        Checks.sentence(23, "UNDONE; NONE. BAD (h 1 .. 9999, t 1 .. 240).");
        Refused.badNumbers("undone(0, h, 9)", Refused::busy, (x, h) -> x.undone(0, h, 9), 0, 10000);
        Refused.badNumbers("undone(-1, h, 240)", StepClock::new, (x, h) -> x.undone(-1, h, 240), 0, 10000);
        StepClock far = Checks.told("clock 10;" + "march 0 240 999;".repeat(4));
        undone(far, 0, 9999, 26, 0);
        undone(far, 0, 9999, 25, 90);
    }

    private static void undoneOfNoOtherMinute() {
        Checks.sentence(23, "BAD (h 1 .. 9999, t 1 .. 240)");
        Refused.badNumbers("undone(0, 1, t)", Refused::busy, (x, t) -> x.undone(0, 1, t), 0, 241);
        Refused.badNumbers("undone(-1, 9999, t)", StepClock::new, (x, t) -> x.undone(-1, 9999, t), 0, 241);
    }

    private static void undoneAsTold() {
        Checks.sentence(23, "with a set sitting");
        StepClock x = Checks.told("clock 10;person;go 0 4 4;");
        x.sits(1);
        x.one(8);
        x.go(3);
        undone(x, 0, 1, 1, 6);
        Checks.due("who sits stays", x.now(4), 1);
        Checks.due("STEPS stay", x.now(1), 8);
    }

    // ---- promise 24

    private static StepClock stairOf(int days) {
        StepClock x = new StepClock();
        for (int d = 0; d < days; d++) {
            x.stair(3);
        }
        return x;
    }

    private static void stairOfTwentyDays() {
        Checks.sentence(24, "A DAY of THE STAIR: how many there are. BAD; FULL.");
        StepClock x = new StepClock();
        for (int d = 1; d <= 20; d++) {
            Checks.due("stair(" + d + ")", x.stair(d), d);
            Checks.due("count(3)", x.count(3), d);
        }
        Checks.due("all of them are there", x.worn(210, 0, 0), 1);
        Checks.due("the first is there", x.worn(1, 0, 1), 0);
        Checks.due("the last is there", x.worn(209, 0, 2), 19);
    }

    private static void stairBeyondTwentyDays() {
        Checks.sentence(24, "THE STAIR: DAYS (20 at most) have STEPS (0 .. 9999)");
        for (int steps : new int[] {0, 3, 9999}) {
            Refused.due("stair(" + steps + "), the 21st", () -> stairOf(20), x -> x.stair(steps), StepClock.FULL);
        }
        Checks.due("the 20th", stairOf(19).stair(3), 20);
    }

    private static void stairIsBadAheadOfFull() {
        Checks.sentence(24, "the first of these: BAD");
        Refused.badNumbers("stair(steps) of a full stair", () -> stairOf(20), StepClock::stair, 10000);
    }

    private static void stairOfOtherSteps() {
        Checks.sentence(24, "STEPS (0 .. 9999)");
        Refused.badNumbers("stair(steps)", Refused::busy, StepClock::stair, 10000, 10001);
        StepClock x = new StepClock();
        Checks.due("stair(9999)", x.stair(9999), 1);
        Checks.due("worn(9999, 0, 0)", x.worn(9999, 0, 0), 1);
    }

    private static void stairOfNoSteps() {
        Checks.sentence(24, "STEPS (0 .. 9999)");
        StepClock x = new StepClock();
        Checks.due("stair(0)", x.stair(0), 1);
        Checks.due("count(3)", x.count(3), 1);
        Checks.due("worn(0, 0, 0)", x.worn(0, 0, 0), 1);
        Checks.due("stair(0)", x.stair(0), 2);
        Checks.due("worn(0, 0, 0)", x.worn(0, 0, 0), 3);
    }

    // ---- promise 25

    private static void worn(StepClock x, int steps, int e, int many, int from, int to) {
        int[] want = {many, from, to};
        for (int what = 0; what < 3; what++) {
            Checks.due("worn(" + steps + ", " + e + ", " + what + ")", x.worn(steps, e, what), want[what]);
        }
    }

    private static StepClock stair(int... days) {
        StepClock x = new StepClock();
        for (int steps : days) {
            x.stair(steps);
        }
        return x;
    }

    private static void wornOfNoDays() {
        Checks.sentence(25, "how many (what = 0), the first DAY (1), the last (2); NONE. BAD.");
        worn(new StepClock(), 0, 0, 0, StepClock.NONE, StepClock.NONE);
        worn(new StepClock(), 0, 999, 0, StepClock.NONE, StepClock.NONE);
        worn(stair(5), 4, 0, 0, StepClock.NONE, StepClock.NONE);
        worn(stair(5), 6, 0, 0, StepClock.NONE, StepClock.NONE);
    }

    private static void wornOneDayAtLeast() {
        Checks.sentence(25, "all rows of DAYS one behind another (one at least)");
        worn(stair(5), 5, 0, 1, 0, 0);
        worn(stair(5), 0, 4, 0, StepClock.NONE, StepClock.NONE);
        worn(stair(5), 0, 5, 1, 0, 0);
        worn(stair(0), 0, 0, 1, 0, 0);
        worn(stair(1, 2, 3), 3, 0, 2, 0, 1);
        worn(stair(1, 2, 4), 4, 0, 1, 2, 2);
    }

    private static void wornDaysOneBehindAnother() {
        Checks.sentence(25, "all rows of DAYS one behind another");
        worn(stair(1, 10, 2), 3, 0, 0, StepClock.NONE, StepClock.NONE);
        worn(stair(1, 10, 2), 13, 0, 1, 0, 2);
        worn(stair(1, 10, 2), 12, 0, 1, 1, 2);
        worn(stair(1, 10, 2), 11, 0, 1, 0, 1);
        worn(stair(7, 7, 7, 7), 14, 0, 3, 0, 1);
    }

    private static void wornToE() {
        Checks.sentence(25, "WORN by x, to e (0 .. 999)");
        StepClock x = stair(5000);
        int[] steps = {4001, 4000, 5999, 6000, 5001, 4999};
        int[] e = {999, 999, 999, 999, 0, 1};
        int[] many = {1, 0, 1, 0, 0, 1};
        for (int i = 0; i < steps.length; i++) {
            worn(x, steps[i], e[i], many[i], many[i] == 1 ? 0 : StepClock.NONE, many[i] == 1 ? 0 : StepClock.NONE);
        }
        worn(stair(9, 10, 11, 12), 10, 1, 3, 0, 0);
    }

    private static void wornBelowNothing() {
        Checks.sentence(25, "are x less e to x and e");
        worn(stair(0, 3), 0, 2, 1, 0, 0);
        worn(stair(0, 3), 0, 3, 3, 0, 0);
        worn(stair(0, 3), 2, 999, 3, 0, 0);
        worn(stair(0, 3), 0, 999, 3, 0, 0);
    }

    private static void wornTheFirstOfSeveral() {
        Checks.sentence(25, "the first, the last DAY of the first such (by the first DAY, then the last)");
        worn(stair(4, 1, 2, 3), 3, 0, 2, 1, 2);
        worn(stair(0, 3, 0), 3, 0, 4, 0, 1);
        worn(stair(3, 0, 0), 3, 0, 3, 0, 0);
        worn(stair(1, 1, 1, 3), 3, 0, 2, 0, 2);
        worn(stair(9, 0, 0, 5), 0, 0, 3, 1, 1);
    }

    private static void wornOfAllThereMayBe() {
        Checks.sentence(25, "WORN (x 0 .. 199999)");
        StepClock x = new StepClock();
        for (int d = 0; d < 20; d++) {
            x.stair(9999);
        }
        worn(x, 199980, 0, 1, 0, 19);
        worn(x, 199999, 19, 1, 0, 19);
        worn(x, 199999, 18, 0, StepClock.NONE, StepClock.NONE);
        worn(x, 9999, 0, 20, 0, 0);
        worn(x, 19998, 0, 19, 0, 1);
        StepClock none = new StepClock();
        for (int d = 0; d < 20; d++) {
            none.stair(0);
        }
        worn(none, 0, 0, 210, 0, 0);
    }

    private static void wornByOtherSteps() {
        Checks.sentence(25, "WORN (x 0 .. 199999)");
        for (int what = 0; what < 3; what++) {
            int asked = what;
            Refused.badNumbers("worn(x, 0, " + what + ")", Refused::busy, (x, steps) -> x.worn(steps, 0, asked), 200000);
        }
        worn(Refused.busy(), 199999, 0, 0, StepClock.NONE, StepClock.NONE);
        worn(Refused.busy(), 0, 0, 0, StepClock.NONE, StepClock.NONE);
    }

    private static void wornToOtherE() {
        Checks.sentence(25, "to e (0 .. 999)");
        for (int what = 0; what < 3; what++) {
            int asked = what;
            Refused.badNumbers("worn(3, e, " + what + ")", Refused::busy, (x, e) -> x.worn(3, e, asked), 1000);
        }
        worn(Refused.busy(), 706, 0, 1, 0, 2);
        worn(Refused.busy(), 0, 999, 6, 0, 0);
    }

    private static void wornOtherWhat() {
        Checks.sentence(25, "the last (2); NONE. BAD.");
        Refused.badNumbers("worn(3, 0, what)", Refused::busy, (x, what) -> x.worn(3, 0, what), 3, 4);
        Refused.badNumbers("worn(0, 0, what)", StepClock::new, (x, what) -> x.worn(0, 0, what), 3);
    }
}
