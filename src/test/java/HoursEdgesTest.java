/** Promises 14 to 17: each sentence of the document that names an edge has a test of its own here. */
public final class HoursEdgesTest {
    public static void main(String[] args) {
        comesAtTheLeastMinute();
        comesAtAnHourAbove();
        comesAtTheLastMinuteOrNot();
        comesOfNoOtherHour();
        comesWhoeverSitsNow();
        comesWithASetSitting();
        comesFromMinuteZero();

        stepsBehindAllMinutes();
        stepsBehindNoOtherMinute();
        stepsAsTold();
        stepsOfAllThatThereMayBe();

        hangsOnAnHourThatIsNotThere();
        hangsOnTheLastHour();
        hangsOnTheNextWayAlone();
        hangsNobody();
        hangsAllSix();
        hangsAsTold();
        standsBehindNoStep();
        standsBehindTheLastStep();
        hangsOtherWhat();

        leastIfItDoesSo();
        leastIfItComesSooner();
        leastAStepAheadOfIt();
        leastInTheFirstAndLastMinute();
        leastOfTheFarthestHour();
        leastByTheHourWithoutThem();
        leastOfNoOtherHour();
        leastOfNoOtherMinute();
        leastAsTold();
        Checks.end("HoursEdgesTest", 14, 17);
    }

    // ---- promise 14

    private static void comesAtTheLeastMinute() {
        Checks.sentence(14, "HOUR h comes at the least t (0 .. 240), so that HOUR behind t MINUTES is h at least; NONE.");
        StepClock x = Checks.told("clock 10;march 0 240 5;");
        for (int h = 1; h <= 120; h++) {
            Checks.due("comes(" + h + ", 0)", x.comes(h, 0), 2 * h);
        }
        Checks.due("comes(121, 0)", x.comes(121, 0), StepClock.NONE);
        StepClock first = Checks.told("clock 10;march 0 1 9;march 0 2 1;");
        Checks.due("in the first minute", first.comes(1, 0), 1);
        StepClock less = Checks.told("clock 11;march 0 1 9;march 0 2 1;");
        Checks.due("a step too few in the first", less.comes(1, 0), 2);
    }

    private static void comesAtAnHourAbove() {
        Checks.sentence(14, "is h at least");
        StepClock x = Checks.told("clock 10;march 7 1 999;");
        Checks.due("comes(1, 0)", x.comes(1, 0), 8);
        Checks.due("comes(50, 0)", x.comes(50, 0), 8);
        Checks.due("comes(99, 0)", x.comes(99, 0), 8);
        Checks.due("comes(100, 0)", x.comes(100, 0), StepClock.NONE);
    }

    private static void comesAtTheLastMinuteOrNot() {
        Checks.sentence(14, "COMES, a set sitting (bits as with sits()); NONE. BAD (h 1 .. 9999).");
        StepClock x = Checks.told("clock 10;march 239 9 10;");
        Checks.due("comes(1, 0)", x.comes(1, 0), 240);
        Checks.due("comes(2, 0)", x.comes(2, 0), StepClock.NONE);
        StepClock y = Checks.told("clock 11;march 239 9 10;");
        Checks.due("a step too few", y.comes(1, 0), StepClock.NONE);
        Checks.due("no steps at all", new StepClock().comes(1, 0), StepClock.NONE);
    }

    private static void comesOfNoOtherHour() {
        Checks.sentence(14, "BAD (h 1 .. 9999)");
        Refused.badNumbers("comes(h, 0)", Refused::busy, (x, h) -> x.comes(h, 0), 0, 10000);
        Refused.badNumbers("comes(h, -1) of a new object", StepClock::new, (x, h) -> x.comes(h, -1), 0, 10000);
        StepClock x = Checks.told("clock 10;" + "march 0 240 999;".repeat(4));
        Checks.due("comes(9999, 0)", x.comes(9999, 0), 26);
        Checks.due("comes(9998, 0)", x.comes(9998, 0), 26);
        Checks.due("a new object's", new StepClock().comes(9999, 0), StepClock.NONE);
    }

    private static void comesWhoeverSitsNow() {
        Checks.sentence(14, "all as told, nobody sits but a told set");
        StepClock x = Checks.told("clock 10;person;go 0 10 5;person;go 0 10 5;");
        x.sits(3);
        Checks.due("comes(2, 0)", x.comes(2, 0), 2);
        Checks.due("comes(1, 2)", x.comes(1, 2), 2);
        Checks.due("who sits stays", x.now(4), 3);
    }

    private static void comesWithASetSitting() {
        Checks.sentence(14, "a set sitting (bits as with sits())");
        StepClock x = Checks.told("clock 10;person;go 0 10 5;person;go 5 10 5;march 20 1 10;");
        int[] want = {2, 7, 2, 21};
        for (int set = 0; set < 4; set++) {
            for (int others : new int[] {0, ~3, 60, Integer.MIN_VALUE, 4}) {
                Checks.due("comes(1, " + (set | others) + ")", x.comes(1, set | others), want[set]);
            }
        }
        Checks.due("comes(1, -1)", x.comes(1, -1), 21);
        Checks.due("comes(2, -1)", x.comes(2, -1), StepClock.NONE);
        StepClock waits = Checks.told("clock 10;person;go 0 10 10;person;wait 1 10 5;");
        Checks.due("who waits waits for those who sit", waits.comes(2, 1), StepClock.NONE);
        Checks.due("else it comes", waits.comes(2, 0), 3);
    }

    private static void comesFromMinuteZero() {
        Checks.sentence(14, "COMES (from MINUTE 0");
        StepClock x = Checks.told("clock 10;march 0 1 10;");
        x.go(240);
        Checks.due("comes(1, 0) at the end", x.comes(1, 0), 1);
        Checks.due("now(0)", x.now(0), 240);
        StepClock y = Checks.told("clock 10;");
        y.one(9999);
        Checks.due("ONE is none of what is told", y.comes(1, 0), StepClock.NONE);
        Checks.due("now(1)", y.now(1), 9999);
    }

    // ---- promise 15

    private static void stepsBehindAllMinutes() {
        Checks.sentence(15, "STEPS behind t MINUTES (0 .. 240), all as told. BAD.");
        StepClock x = Checks.told("person;go 10 25 10;march 12 1 100;march 239 1 7;");
        for (int t = 0; t <= 240; t++) {
            int want = t <= 10 ? 0 : t == 11 ? 10 : t == 12 ? 20 : t < 240 ? 125 : 132;
            Checks.due("steps(" + t + ")", x.steps(t), want);
        }
    }

    private static void stepsBehindNoOtherMinute() {
        Checks.sentence(15, "STEPS behind t MINUTES (0 .. 240), all as told. BAD.");
        Refused.badNumbers("steps(t)", Refused::busy, StepClock::steps, 241, 242);
        Refused.badNumbers("steps(t) of a new object", StepClock::new, StepClock::steps, 241);
        Checks.due("steps(0)", new StepClock().steps(0), 0);
        Checks.due("steps(240)", new StepClock().steps(240), 0);
    }

    private static void stepsAsTold() {
        Checks.sentence(15, "all as told");
        StepClock x = Checks.told("clock 10;person;go 0 10 5;person;wait 2 10 5;");
        x.sits(1);
        x.one(9999);
        x.go(100);
        Checks.due("neither ONE nor who sits now", x.steps(240), 10);
        Checks.due("steps(1)", x.steps(1), 5);
        StepClock same = Checks.told("clock 10;person;go 0 10 5;person;wait 2 10 5;");
        Checks.due("NOW goes the same way", same.go(240), 10);
    }

    private static void stepsOfAllThatThereMayBe() {
        Checks.sentence(15, "STEPS behind t MINUTES");
        StepClock x = Checks.told("march 0 240 999;".repeat(4) + "person;go 0 999 99;".repeat(6));
        Checks.due("steps(1)", x.steps(1), 4 * 999 + 6 * 99);
        Checks.due("steps(240)", x.steps(240), 4 * 240 * 999 + 6 * 999);
    }

    // ---- promise 16

    private static void hangsOnAnHourThatIsNotThere() {
        Checks.sentence(16, "PEOPLE who wait, behind 240 MINUTES, for an HOUR that is not there");
        String people = "person;wait 1 1 1;person;wait 2 1 1;person;wait 3 1 1;";
        Checks.due("a step ahead of hour 1", Checks.told("clock 10;march 0 1 9;" + people).hangs(0), 7);
        Checks.due("hour 1 in the last minute", Checks.told("clock 10;march 239 1 10;" + people).hangs(0), 6);
        Checks.due("a step ahead of it in the last minute", Checks.told("clock 10;march 239 1 9;" + people).hangs(0), 7);
        Checks.due("hour 2, and nobody sees it", Checks.told("clock 10;march 239 1 29;" + people).hangs(0), 4);
        Checks.due("hour 3", Checks.told("clock 10;march 239 1 30;" + people).hangs(0), 0);
    }

    private static void hangsOnTheLastHour() {
        Checks.sentence(16, "HANGS (what = 0), as bits");
        String person = "person;wait 99 1 1;";
        Checks.due("hour 98", Checks.told("clock 10;march 0 1 989;" + person).hangs(0), 1);
        Checks.due("hour 99", Checks.told("clock 10;march 0 1 990;" + person).hangs(0), 0);
    }

    private static void hangsOnTheNextWayAlone() {
        Checks.sentence(16, "PEOPLE who wait, behind 240 MINUTES, for an HOUR");
        Checks.due("who waits for a minute", Checks.told("person;go 239 1 1;go 239 1 1;wait 99 1 1;").hangs(0), 0);
        Checks.due("who is on a way", Checks.told("person;go 0 999 1;wait 99 1 1;").hangs(0), 0);
        Checks.due("who is done in the last minute", Checks.told("person;go 239 1 1;wait 99 1 1;").hangs(0), 1);
        Checks.due("who is done with all", Checks.told("person;go 0 1 1;").hangs(0), 0);
        Checks.due("who has no way", Checks.told("person;").hangs(0), 0);
        Checks.due("who was on a wait", Checks.told("clock 10;march 0 1 10;person;wait 1 1 1;").hangs(0), 0);
        Checks.due("the fourth", Checks.told("person;go 0 1 1;go 0 1 1;go 0 1 1;wait 1 1 1;").hangs(0), 1);
    }

    private static void hangsNobody() {
        Checks.sentence(16, "HANGS (what = 0), as bits; STANDS (1)");
        Checks.due("hangs(0)", new StepClock().hangs(0), 0);
        Checks.due("hangs(1)", new StepClock().hangs(1), 0);
    }

    private static void hangsAllSix() {
        Checks.sentence(16, "HANGS (what = 0), as bits");
        Checks.due("all", Checks.told("person;wait 1 1 1;".repeat(6)).hangs(0), 63);
        Checks.due("the last", Checks.told("person;".repeat(6) + "wait 1 1 1;").hangs(0), 32);
        Checks.due("the first", Checks.told("person;wait 1 1 1;" + "person;".repeat(5)).hangs(0), 1);
    }

    private static void hangsAsTold() {
        Checks.sentence(16, "all as told, nobody sits");
        StepClock x = Checks.told("clock 10;person;go 0 10 5;person;wait 1 10 5;");
        x.sits(3);
        x.go(240);
        Checks.due("nobody sits", x.hangs(0), 0);
        Checks.due("the last step", x.hangs(1), 5 - 1);
        StepClock y = Checks.told("clock 10;person;wait 1 10 5;");
        y.one(10);
        y.go(3);
        Checks.due("ONE is not told", y.hangs(0), 1);
        Checks.due("no step", y.hangs(1), 0);
    }

    private static void standsBehindNoStep() {
        Checks.sentence(16, "STANDS: behind how many MINUTES the last STEP was (0: none was)");
        Checks.due("nobody", new StepClock().hangs(1), 0);
        Checks.due("who hangs", Checks.told("person;wait 1 1 1;").hangs(1), 0);
    }

    private static void standsBehindTheLastStep() {
        Checks.sentence(16, "STANDS: behind how many MINUTES the last STEP was");
        Checks.due("in minute 0", Checks.told("person;go 0 9 9;").hangs(1), 1);
        Checks.due("in minute 1", Checks.told("person;go 0 9 8;").hangs(1), 2);
        Checks.due("in minute 239", Checks.told("march 239 1 1;").hangs(1), 240);
        Checks.due("in minute 238", Checks.told("march 238 1 1;").hangs(1), 239);
        Checks.due("in all", Checks.told("march 0 240 1;").hangs(1), 240);
        Checks.due("behind a pause", Checks.told("march 0 1 1;march 100 2 1;").hangs(1), 102);
    }

    private static void hangsOtherWhat() {
        Checks.sentence(16, "STANDS (1). BAD.");
        Refused.badNumbers("hangs(what)", Refused::busy, StepClock::hangs, 2, 3);
    }

    // ---- promise 17

    private static void leastIfItDoesSo() {
        Checks.sentence(17, "0, if it does so; NONE: it comes sooner");
        StepClock x = Checks.told("clock 10;march 5 1 25;");
        Checks.due("hour 1 comes at 6", x.least(1, 6), 0);
        Checks.due("hour 2 comes at 6, five steps above it", x.least(2, 6), 0);
        Checks.due("hour 3 does not", x.least(3, 6), 5);
    }

    private static void leastIfItComesSooner() {
        Checks.sentence(17, "NONE: it comes sooner");
        StepClock x = Checks.told("clock 10;march 5 1 25;");
        Checks.due("a minute sooner", x.least(1, 7), StepClock.NONE);
        Checks.due("long ago", x.least(2, 240), StepClock.NONE);
        Checks.due("hour 3 doesn't", x.least(3, 7), 5);
    }

    private static void leastAStepAheadOfIt() {
        Checks.sentence(17, "by how many STEPS more in minute t less 1 (all taken in that minute, by somebody else)");
        StepClock x = Checks.told("clock 10;march 5 1 9;march 6 1 1;march 7 1 1;");
        Checks.due("none was taken", x.least(1, 5), 10);
        Checks.due("a step is wanted", x.least(1, 6), 1);
        Checks.due("it comes", x.least(1, 7), 0);
        Checks.due("it came", x.least(1, 8), StepClock.NONE);
    }

    private static void leastInTheFirstAndLastMinute() {
        Checks.sentence(17, "HOUR h comes at t just (t 1 .. 240)");
        StepClock x = Checks.told("clock 10;march 0 1 3;march 239 1 4;");
        Checks.due("least(1, 1)", x.least(1, 1), 7);
        Checks.due("least(1, 239)", x.least(1, 239), 7);
        Checks.due("least(1, 240)", x.least(1, 240), 3);
        Checks.due("least(2, 240)", x.least(2, 240), 13);
    }

    private static void leastOfTheFarthestHour() {
        Checks.sentence(17, "LEAST; NONE. BAD (h 1 .. 9999).");
        Checks.due("least(9999, 240)", Checks.told("clock 999;").least(9999, 240), 9989001);
        Checks.due("least(9999, 1)", Checks.told("clock 999;march 0 1 1;").least(9999, 1), 9989000);
        StepClock most = Checks.told("clock 10;" + "march 0 240 999;".repeat(4));
        Checks.due("least(9999, 25)", most.least(9999, 25), 90);
        Checks.due("least(9999, 26)", most.least(9999, 26), 0);
        Checks.due("least(9999, 27)", most.least(9999, 27), StepClock.NONE);
    }

    private static void leastByTheHourWithoutThem() {
        Checks.sentence(17, "(Who waits waits by the HOUR as it is without them.)");
        StepClock x = Checks.told("clock 10;person;wait 1 50 5;march 4 1 10;");
        Checks.due("hour 2 by 5", x.least(2, 5), 10);
        Checks.due("hour 2 by 6", x.least(2, 6), 5);
        Checks.due("hour 2 by 7", x.least(2, 7), 0);
    }

    private static void leastOfNoOtherHour() {
        Checks.sentence(17, "LEAST; NONE. BAD (h 1 .. 9999).");
        Refused.badNumbers("least(h, 1)", Refused::busy, (x, h) -> x.least(h, 1), 0, 10000);
        Refused.badNumbers("least(h, 240)", Refused::atTheEnd, (x, h) -> x.least(h, 240), 0, 10000);
    }

    private static void leastOfNoOtherMinute() {
        Checks.sentence(17, "at t just (t 1 .. 240)");
        Refused.badNumbers("least(1, t)", Refused::busy, (x, t) -> x.least(1, t), 0, 241);
        Refused.badNumbers("least(9999, t)", StepClock::new, (x, t) -> x.least(9999, t), 0, 241);
    }

    private static void leastAsTold() {
        Checks.sentence(17, "LEAST: by how many STEPS more");
        StepClock x = Checks.told("clock 10;person;go 0 5 5;");
        x.sits(1);
        x.one(8);
        x.go(3);
        Checks.due("neither ONE nor who sits now", x.least(1, 1), 5);
        Checks.due("nothing is taken by it", x.steps(240), 5);
        Checks.due("now(1)", x.now(1), 8);
    }
}
