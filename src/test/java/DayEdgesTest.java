import java.util.function.ToIntFunction;

/** Promises 1 to 7: each sentence of the document that names an edge has a test of its own here. */
public final class DayEdgesTest {
    public static void main(String[] args) {
        nobodyAtFirst();
        noMarchesAtFirst();
        noWorksAtFirst();
        ninetyStepsAnHourAtFirst();
        minuteZeroAtFirst();
        nobodySitsAtFirst();
        noTraceAtFirst();
        noTextStairOrImageAtFirst();

        typeOneToEightBytes();
        typeNoOtherNumberOfBytes();
        typeTheLowestBytesAlone();
        typeTheHighestOfThemFirst();
        typeEveryByte();
        typeTellsHowManyItHas();
        typeUpToFourHundredBytes();
        typeBeyondFourHundredBytes();
        typeIsBadAheadOfFull();

        clearAnEmptyText();
        clearAFullText();
        clearTheTextAlone();

        dayOfNoItems();
        dayOfFourHundredBytes();
        dayOfAllThereMayBe();
        dayWithBlanksAnywhere();
        dayWithoutBlanks();
        dayWithOtherBytesThanBlanks();
        dayWithItemsNotEnded();
        wordsOfSmallLetters();
        theClockOnceAtMost();
        theClockToldAgain();
        theClockOfTenToNineHundred();
        aDayThatTellsNoClock();
        peopleFromNoneToSix();
        waysFromNoneToFour();
        marchesFromNoneToFour();
        worksFromNoneToSix();
        sixPeopleAtMost();
        fourWaysAtMost();
        waysOfThePersonToldLast();
        theMinuteOfAGo();
        theHourOfAWait();
        theStepsOfAWay();
        theStepsAMinuteOfAWay();
        fourMarchesAtMost();
        theNumbersOfAMarch();
        sixWorksAtMost();
        theNumbersOfAWork();
        noBeginningOfAToken();
        noneOfTheWords();
        aWordThatCantStandThere();
        numbersAboveNineHundred();
        numbersThatWrapAround();
        numbersWithAZeroAhead();
        theTextEndsTooEarly();
        theFirstOfSeveralFaults();
        aFaultChangesNothing();
        aFaultThatIsMended();
        theTextIsEmptyThen();
        aDayReadAnewIsAtFirst();
        aDayReadAnewLosesImages();
        aDayReadAnewKeepsStairAndTrace();
        aDayReadAnewTakesTheOldOneAway();

        wayOfNobody();
        wayThatThereIsNot();
        wayOtherWhat();
        wayGoIsZeroAndWaitOne();
        marchThatThereIsNot();
        marchOtherWhat();
        workThatThereIsNot();
        workOtherWhat();
        workHoursIsZeroAndFireOne();
        Checks.end("DayEdgesTest", 1, 7);
    }

    // ---- promise 1

    private static void nobodyAtFirst() {
        Checks.sentence(1, "nobody, no MARCHES, no WORKS");
        StepClock x = new StepClock();
        Checks.due("count(0)", x.count(0), 0);
        Checks.due("person(0, 0)", x.person(0, 0), StepClock.BAD);
        Checks.due("way(0, 0, 0)", x.way(0, 0, 0), StepClock.BAD);
        Checks.due("mark(0, 0)", x.mark(0, 0), StepClock.NO);
        Checks.due("hangs(0)", x.hangs(0), 0);
        Checks.due("strike(1, 240, 0)", x.strike(1, 240, 0), 0);
    }

    private static void noMarchesAtFirst() {
        Checks.sentence(1, "nobody, no MARCHES, no WORKS");
        StepClock x = new StepClock();
        Checks.due("count(1)", x.count(1), 0);
        Checks.due("march(0, 0)", x.march(0, 0), StepClock.BAD);
        Checks.due("steps(240)", x.steps(240), 0);
        Checks.due("hangs(1)", x.hangs(1), 0);
        Checks.due("go(240)", x.go(240), 0);
    }

    private static void noWorksAtFirst() {
        Checks.sentence(1, "nobody, no MARCHES, no WORKS");
        StepClock x = new StepClock();
        Checks.due("count(2)", x.count(2), 0);
        Checks.due("work(0, 0)", x.work(0, 0), StepClock.BAD);
        Checks.due("ends(0, 0)", x.ends(0, 0), StepClock.BAD);
        for (int what = 0; what < 3; what++) {
            Checks.due("oneDay(" + what + ")", x.oneDay(what), 0);
        }
    }

    private static void ninetyStepsAnHourAtFirst() {
        Checks.sentence(1, "999; 90 at first)");
        StepClock x = new StepClock();
        Checks.due("count(5)", x.count(5), 90);
        Checks.due("one(89)", x.one(89), 0);
        Checks.due("one(1)", x.one(1), 1);
        Checks.due("least(1, 1)", x.least(1, 1), 90);
    }

    private static void minuteZeroAtFirst() {
        Checks.sentence(1, "MINUTE 0 at first, 240 at most; STEPS of all 0");
        StepClock x = new StepClock();
        Checks.due("now(0)", x.now(0), 0);
        Checks.due("now(1)", x.now(1), 0);
        Checks.due("now(2)", x.now(2), 0);
        Checks.due("now(3)", x.now(3), 0);
        Checks.due("now(5)", x.now(5), 0);
        Checks.due("anew()", x.anew(), 0);
    }

    private static void nobodySitsAtFirst() {
        Checks.sentence(1, "SITTING: a set of PEOPLE (0 at first)");
        StepClock x = new StepClock();
        Checks.due("now(4)", x.now(4), 0);
        Checks.due("sits(-1)", x.sits(-1), 0);
        Checks.due("nobody can", x.now(4), 0);
    }

    private static void noTraceAtFirst() {
        Checks.sentence(1, "come to THE TRACE (0 at first; of all calls ever, together)");
        Checks.due("trace()", new StepClock().trace(), 0);
    }

    private static void noTextStairOrImageAtFirst() {
        Checks.sentence(1, "`StepClock()`: As told");
        StepClock x = new StepClock();
        Checks.due("count(4)", x.count(4), 0);
        Checks.due("clear()", x.clear(), 0);
        Checks.due("count(3)", x.count(3), 0);
        Checks.due("worn(0, 999, 0)", x.worn(0, 999, 0), 0);
        Checks.due("back(0)", x.back(0), StepClock.STATE);
        Checks.due("back(1)", x.back(1), StepClock.STATE);
    }

    // ---- promise 2

    private static void typeOneToEightBytes() {
        Checks.sentence(2, "The lowest n (1 .. 8) bytes of v");
        for (int n = 1; n <= 8; n++) {
            StepClock x = new StepClock();
            Checks.due("type(.., " + n + ")", x.type(0x2020202020202020L, n), n);
            Checks.due("count(4)", x.count(4), n);
            Checks.due("blanks", x.day(), 0);
        }
    }

    private static void typeNoOtherNumberOfBytes() {
        Checks.sentence(2, "how many it has. BAD; FULL.");
        Refused.badNumbers("type(32, n)", Refused::busy, (x, n) -> x.type(32, n), 0, 9);
        Refused.badNumbers("type(32, n) of a new object", StepClock::new, (x, n) -> x.type(32, n), 0, 9, 16, 64);
    }

    private static void typeTheLowestBytesAlone() {
        Checks.sentence(2, "The lowest n (1 .. 8) bytes of v");
        for (int n = 1; n < 8; n++) {
            for (long above : new long[] {0, -1, 0x7373737373737373L, Long.MIN_VALUE}) {
                StepClock x = new StepClock();
                long low = 0x2020202020202020L;
                long bits = (1L << 8 * n) - 1;
                Checks.due("type(.., " + n + ")", x.type(low & bits | above & ~bits, n), n);
                Checks.due("day() of blanks alone", x.day(), 0);
            }
        }
    }

    private static void typeTheHighestOfThemFirst() {
        Checks.sentence(2, "the highest of them first, come to THE TEXT");
        StepClock x = new StepClock();
        x.type(0x636c6f636b203132L, 8);
        x.type(0x333b, 2);
        Checks.due("day() of 'clock 123;'", x.day(), 1);
        Checks.due("count(5)", x.count(5), 123);
        StepClock y = new StepClock();
        for (char c : "clock 321;".toCharArray()) {
            y.type(c, 1);
        }
        Checks.due("day() of 'clock 321;'", y.day(), 1);
        Checks.due("count(5)", y.count(5), 321);
    }

    private static void typeEveryByte() {
        Checks.sentence(2, "come to THE TEXT: how many it has");
        for (int value = 0; value < 256; value++) {
            StepClock x = new StepClock();
            Checks.due("type(" + value + ", 1)", x.type(value, 1), 1);
            Checks.due("type(" + (value - 256) + ", 1)", x.type(value - 256, 1), 2);
            Checks.due("day() of byte " + value + " twice", x.day(), value == ' ' ? 0 : -10);
        }
    }

    private static void typeTellsHowManyItHas() {
        Checks.sentence(2, "how many it has");
        StepClock x = new StepClock();
        int has = 0;
        for (int n = 1; n <= 8; n++) {
            has += n;
            Checks.due("type(0, " + n + ")", x.type(0, n), has);
            Checks.due("count(4)", x.count(4), has);
        }
    }

    private static StepClock textOf(int bytes) {
        StepClock x = new StepClock();
        Checks.type(x, "clock 20;" + " ".repeat(bytes - 9));
        return x;
    }

    private static void typeUpToFourHundredBytes() {
        Checks.sentence(2, "THE DAY is a text (400 bytes at most)");
        for (int n = 1; n <= 8; n++) {
            StepClock x = textOf(400 - n);
            Checks.due("the last " + n, x.type(0x2020202020202020L, n), 400);
            Checks.due("day()", x.day(), 1);
        }
    }

    private static void typeBeyondFourHundredBytes() {
        Checks.sentence(2, "THE DAY is a text (400 bytes at most)");
        for (int n = 1; n <= 8; n++) {
            int bytes = n;
            Refused.due("one too many with " + n, () -> textOf(401 - bytes), x -> x.type(0, bytes), StepClock.FULL);
            Refused.due("all too many with " + n, () -> textOf(400), x -> x.type(0, bytes), StepClock.FULL);
        }
    }

    private static void typeIsBadAheadOfFull() {
        Checks.sentence(2, "Refused, and nothing changes, the first of these: BAD");
        Refused.badNumbers("type(32, n) of a full text", () -> textOf(400), (x, n) -> x.type(32, n), 0, 9);
    }

    // ---- promise 3

    private static void clearAnEmptyText() {
        Checks.sentence(3, "THE TEXT is empty: how many bytes it had");
        StepClock x = new StepClock();
        Checks.due("clear()", x.clear(), 0);
        x.type(65, 1);
        Checks.due("clear()", x.clear(), 1);
        Checks.due("clear() again", x.clear(), 0);
        Checks.due("day()", x.day(), 0);
    }

    private static void clearAFullText() {
        Checks.sentence(3, "THE TEXT is empty: how many bytes it had");
        StepClock x = textOf(400);
        Checks.due("clear()", x.clear(), 400);
        Checks.due("count(4)", x.count(4), 0);
        Checks.due("room for all again", Checks.type(x, "clock 30;" + " ".repeat(391)), 400);
        Checks.due("day()", x.day(), 1);
        Checks.due("count(5)", x.count(5), 30);
    }

    private static void clearTheTextAlone() {
        Checks.sentence(3, "THE TEXT is empty");
        StepClock x = Refused.busy();
        StepClock same = Refused.busy();
        Checks.due("clear()", x.clear(), same.count(4));
        for (int what = 0; what < 6; what++) {
            Checks.due("count(" + what + ")", x.count(what), what == 4 ? 0 : same.count(what));
            Checks.due("now(" + what + ")", x.now(what), same.now(what));
        }
        Checks.due("back(0)", x.back(0), same.back(0));
        Checks.due("trace()", x.trace(), same.trace());
    }

    // ---- promise 4

    private static StepClock read(String text, int items) {
        StepClock x = new StepClock();
        Checks.type(x, text);
        Checks.due("day() of '" + text + "'", x.day(), items);
        return x;
    }

    /** A bar stands ahead of the byte that is the fault. */
    private static void fault(String marked) {
        read(marked.replace("|", ""), -10 - marked.indexOf('|'));
    }

    private static void dayOfNoItems() {
        Checks.sentence(4, "ITEMS (none, too), each ended by ;");
        read("", 0);
        read(" ", 0);
        read(" ".repeat(400), 0);
        fault("|;");
        fault("  |;");
        fault("person;|;");
    }

    private static void dayOfFourHundredBytes() {
        Checks.sentence(4, "THE DAY is a text (400 bytes at most), read byte by byte");
        Checks.due("ended by the last byte", read("clock" + " ".repeat(392) + "77;", 1).count(5), 77);
        fault("clock" + " ".repeat(393) + "77|");
        fault("clock 20;" + " ".repeat(390) + "|z");
        fault("clock 20;" + " ".repeat(385) + "person|");
    }

    private static void dayOfAllThereMayBe() {
        Checks.sentence(4, "THE TEXT becomes THE DAY, and is empty then: how many ITEMS");
        String text = "clock10;" + ("person;" + "go0 1 1;wait1 1 1;".repeat(2)).repeat(6) + "march 0 1 1;".repeat(4)
                + "work hours1 0;".repeat(2) + "work fire1 0;".repeat(4);
        StepClock x = read(text, 1 + 6 + 24 + 4 + 6);
        Checks.due("count(0)", x.count(0), 6);
        Checks.due("count(1)", x.count(1), 4);
        Checks.due("count(2)", x.count(2), 6);
        Checks.due("the last way", x.way(5, 3, 0), 1);
        Checks.due("the last work", x.work(5, 0), 1);
    }

    private static void dayWithBlanksAnywhere() {
        Checks.sentence(4, "blanks (32) ahead of, between and behind TOKENS as may be");
        StepClock x = read("   clock   20   ;   person  ;  go   1   2   3   ;  wait  4  5  6 ; march  7  8  9  ;"
                + "  work   hours   10   11  ;  work fire 12 13 ;   ", 7);
        Checks.due("count(5)", x.count(5), 20);
        Checks.due("way(0, 0, 3)", x.way(0, 0, 3), 3);
        Checks.due("way(0, 1, 1)", x.way(0, 1, 1), 4);
        Checks.due("march(0, 2)", x.march(0, 2), 9);
        Checks.due("work(0, 1)", x.work(0, 1), 10);
        Checks.due("work(1, 2)", x.work(1, 2), 13);
        fault("|p erson;");
        fault("clock |1 0;");
        fault("clock 10 |0;");
    }

    private static void dayWithoutBlanks() {
        Checks.sentence(4, "(none needed where TOKENS end without)");
        StepClock x = read("clock20;person;go1 2 3;wait4 5 6;march7 8 9;work hours10 11;work fire12 13;", 7);
        Checks.due("count(5)", x.count(5), 20);
        Checks.due("way(0, 0, 1)", x.way(0, 0, 1), 1);
        Checks.due("way(0, 1, 1)", x.way(0, 1, 1), 4);
        Checks.due("march(0, 0)", x.march(0, 0), 7);
        Checks.due("work(0, 1)", x.work(0, 1), 10);
        Checks.due("work(1, 1)", x.work(1, 1), 12);
        fault("person;go 1 23|;");
        fault("|workfire 1 1;");
        fault("|personperson;");
        fault("clock 10|person;");
        fault("person|7;");
    }

    private static void dayWithOtherBytesThanBlanks() {
        Checks.sentence(4, "blanks (32)");
        for (char white : new char[] {'\t', '\n', '\r', '\f', 11, 0, 160}) {
            fault("|" + white + "person;");
            fault("clock|" + white + "20;");
            fault("clock 20|" + white + ";");
            fault("person;|" + white);
        }
    }

    private static void dayWithItemsNotEnded() {
        Checks.sentence(4, "each ended by ;");
        fault("person |person;");
        fault("person |clock 20;");
        fault("clock 20 |person;");
        fault("clock 20 |20;");
        fault("person;go 1 2 3 |go 1 2 3;");
        fault("person;go 1 2 3 |4;");
        fault("person;wait 1 2 3 |4;");
        fault("march 1 2 3 |march 1 2 3;");
        fault("march 1 2 3 |4;");
        fault("work fire 1 2 |3;");
        fault("work hours 1 2 |person;");
    }

    private static void wordsOfSmallLetters() {
        Checks.sentence(4, "TOKENS are words of letters a .. z (clock, person, go, wait, march, work, hours, fire), NUMBERS and ; .");
        read("clock 20;person;go 1 1 1;wait 1 1 1;march 1 1 1;work hours 1 1;work fire 1 1;", 7);
        fault("|CLOCK 20;");
        fault("|Person;");
        fault("|persoN;");
        fault("person;|GO 1 1 1;");
        fault("person;|wAit 1 1 1;");
        fault("|marcH 1 1 1;");
        fault("|Work fire 1 1;");
        fault("work |Hours 1 1;");
        fault("work |fIre 1 1;");
        fault("person|:");
    }

    private static void theClockOnceAtMost() {
        Checks.sentence(4, "clock K (once at most)");
        Checks.due("none", read("person;", 1).count(5), 90);
        Checks.due("once", read("clock 20;", 1).count(5), 20);
        Checks.due("once, behind others", read("person;march 1 1 1;clock 20;", 3).count(5), 20);
        tooMany("", "clock 20;", 1);
    }

    private static void theClockToldAgain() {
        Checks.sentence(4, "(clock told again, a seventh person");
        fault("clock 20;|clock 20;");
        fault("clock 20;person;march 1 1 1;|clock 30;");
        fault("clock 20;|clock");
        fault("clock 20;|clock 9;");
        StepClock x = read("clock 20;", 1);
        Checks.type(x, "clock 30;");
        Checks.due("in another day it is told anew", x.day(), 1);
        Checks.due("count(5)", x.count(5), 30);
    }

    /** An item whose number, put for #, may be least to most; one less and one more may not. */
    private static void range(String item, int least, int most, ToIntFunction<StepClock> part) {
        int items = (int) item.chars().filter(c -> c == ';').count();
        for (int number : new int[] {least, least + 1, most - 1, most}) {
            StepClock x = read(item.replace("#", Integer.toString(number)), items);
            Checks.due("the number told of '" + item + "'", part.applyAsInt(x), number);
        }
        for (int number : new int[] {least - 1, most + 1}) {
            fault(item.replace("#", "|" + number));
        }
    }

    private static void theClockOfTenToNineHundred() {
        Checks.sentence(4, "a NUMBER beyond what it may be, too");
        range("clock #;", 10, 999, x -> x.count(5));
        fault("clock |0;");
        fault("clock |1;");
    }

    private static void aDayThatTellsNoClock() {
        Checks.sentence(4, "999; 90 at first)");
        Checks.due("count(5)", read("person;", 1).count(5), 90);
        StepClock x = read("clock 20;", 1);
        Checks.type(x, "person;");
        Checks.due("day()", x.day(), 1);
        Checks.due("no clock in the text that is THE DAY", x.count(5), 90);
        Checks.due("one(89)", x.one(89), 0);
    }

    private static void tooMany(String ahead, String item, int most) {
        int items = (int) ahead.chars().filter(c -> c == ';').count();
        read(ahead + item.repeat(most), items + most);
        fault(ahead + item.repeat(most) + "|" + item);
        fault(ahead + item.repeat(most) + "  |" + item);
    }

    private static void peopleFromNoneToSix() {
        Checks.sentence(4, "PEOPLE 0 .. (6 at most)");
        for (int people = 0; people <= 6; people++) {
            StepClock x = read("person;".repeat(people), people);
            Checks.due("count(0)", x.count(0), people);
            for (int p = 0; p <= 6; p++) {
                Checks.due("person(" + p + ", 0) of " + people, x.person(p, 0), p < people ? 0 : StepClock.BAD);
            }
        }
    }

    private static void waysFromNoneToFour() {
        Checks.sentence(4, "have WAYS 0 .. (4 at most, one behind another)");
        for (int ways = 0; ways <= 4; ways++) {
            StringBuilder text = new StringBuilder("person;go 9 9 9;person;");
            for (int k = 0; k < ways; k++) {
                text.append("go ").append(10 + k).append(" 1 1;");
            }
            StepClock x = read(text + "person;go 8 8 8;", 5 + ways);
            for (int k = 0; k <= 4; k++) {
                Checks.due("way(1, " + k + ", 1) of " + ways, x.way(1, k, 1), k < ways ? 10 + k : StepClock.BAD);
            }
        }
    }

    private static void marchesFromNoneToFour() {
        Checks.sentence(4, "MARCHES 0 .. (4 at most)");
        for (int marches = 0; marches <= 4; marches++) {
            StepClock x = read("march 1 2 3;".repeat(marches), marches);
            Checks.due("count(1)", x.count(1), marches);
            for (int m = 0; m <= 4; m++) {
                Checks.due("march(" + m + ", 2) of " + marches, x.march(m, 2), m < marches ? 3 : StepClock.BAD);
            }
        }
    }

    private static void worksFromNoneToSix() {
        Checks.sentence(4, "WORKS 0 .. (6 at most)");
        for (int works = 0; works <= 6; works++) {
            StepClock x = read("work fire 2 3;".repeat(works), works);
            Checks.due("count(2)", x.count(2), works);
            for (int w = 0; w <= 6; w++) {
                Checks.due("work(" + w + ", 2) of " + works, x.work(w, 2), w < works ? 3 : StepClock.BAD);
            }
        }
    }

    private static void sixPeopleAtMost() {
        Checks.sentence(4, "a seventh person");
        tooMany("", "person;", 6);
        tooMany("march 1 1 1;", "person;", 6);
        Checks.due("count(0)", read("person;".repeat(6), 6).count(0), 6);
        fault("person;go 1 1 1;".repeat(6) + "|person;");
    }

    private static void fourWaysAtMost() {
        Checks.sentence(4, "a fifth way of one");
        tooMany("person;", "go 1 1 1;", 4);
        tooMany("person;", "wait 1 1 1;", 4);
        tooMany("person;go 1 1 1;wait 1 1 1;go 1 1 1;", "wait 1 1 1;", 1);
        tooMany("person;" + "go 1 1 1;".repeat(4) + "person;", "go 1 1 1;", 4);
        read("person;" + "go 1 1 1;".repeat(4) + "person;person;wait 1 1 1;", 8);
    }

    private static void waysOfThePersonToldLast() {
        Checks.sentence(4, "(of the person told last; there must be one)");
        fault("|go 1 1 1;");
        fault("|wait 1 1 1;");
        fault("clock 20;march 1 1 1;work fire 1 1;|go 1 1 1;person;");
        fault("|go");
        StepClock x = read("person;go 1 1 1;person;march 1 1 1;go 2 2 2;work fire 1 1;clock 20;wait 3 3 3;person;", 9);
        Checks.due("way(0, 0, 1)", x.way(0, 0, 1), 1);
        Checks.due("way(0, 1, 1)", x.way(0, 1, 1), StepClock.BAD);
        Checks.due("way(1, 0, 1)", x.way(1, 0, 1), 2);
        Checks.due("way(1, 1, 1)", x.way(1, 1, 1), 3);
        Checks.due("way(2, 0, 1)", x.way(2, 0, 1), StepClock.BAD);
    }

    private static void theMinuteOfAGo() {
        Checks.sentence(4, "GO M N P (not ahead of minute M 0 .. 239");
        range("person;go # 1 1;", 0, 239, x -> x.way(0, 0, 1));
    }

    private static void theHourOfAWait() {
        Checks.sentence(4, "WAIT H N P (not ahead of HOUR H, 1 .. 99)");
        range("person;wait # 1 1;", 1, 99, x -> x.way(0, 0, 1));
    }

    private static void theStepsOfAWay() {
        Checks.sentence(4, "N STEPS 1 .. 999");
        range("person;go 0 # 1;", 1, 999, x -> x.way(0, 0, 2));
        range("person;wait 1 # 1;", 1, 999, x -> x.way(0, 0, 2));
    }

    private static void theStepsAMinuteOfAWay() {
        Checks.sentence(4, "P a minute 1 .. 99)");
        range("person;go 0 1 #;", 1, 99, x -> x.way(0, 0, 3));
        range("person;wait 1 1 #;", 1, 99, x -> x.way(0, 0, 3));
    }

    private static void fourMarchesAtMost() {
        Checks.sentence(4, "a fifth march");
        tooMany("", "march 1 1 1;", 4);
        tooMany("person;", "march 1 1 1;", 4);
    }

    private static void theNumbersOfAMarch() {
        Checks.sentence(4, "from minute M, L minutes (1 .. 240), P STEPS each (1 .. 999)");
        range("march # 1 1;", 0, 239, x -> x.march(0, 0));
        range("march 0 # 1;", 1, 240, x -> x.march(0, 1));
        range("march 0 1 #;", 1, 999, x -> x.march(0, 2));
        read("march 239 240 999;", 1);
    }

    private static void sixWorksAtMost() {
        Checks.sentence(4, "a seventh work");
        tooMany("", "work hours 1 1;", 6);
        tooMany("", "work fire 1 1;", 6);
        tooMany("work fire 1 1;work hours 1 1;work fire 1 1;", "work hours 1 1;", 3);
    }

    private static void theNumbersOfAWork() {
        Checks.sentence(4, "by HOURS: D STEPS of the clock (1 .. 999), or by FIRE: D minutes (1 .. 240); WORTH (0 .. 99)");
        range("work hours # 1;", 1, 999, x -> x.work(0, 1));
        range("work fire # 1;", 1, 240, x -> x.work(0, 1));
        range("work hours 1 #;", 0, 99, x -> x.work(0, 2));
        range("work fire 1 #;", 0, 99, x -> x.work(0, 2));
    }

    private static void noBeginningOfAToken() {
        Checks.sentence(4, "of a byte that begins none");
        for (int value = 0; value < 256; value++) {
            boolean begins = value == ' ' || value == ';' || value >= '0' && value <= '9' || value >= 'a' && value <= 'z';
            if (!begins) {
                read("person; " + (char) value, -10 - 8);
                read("clock 22" + (char) value + "0;", -10 - 8);
                read("person" + (char) value + ";", -10 - 6);
            }
        }
    }

    private static void noneOfTheWords() {
        Checks.sentence(4, "a word that is none of these");
        String[] words = {
            "perso", "persons", "erson", "clocks", "cloc", "lock", "g", "goo", "o", "waits", "wai", "marc", "marches",
            "works", "wor", "a", "z", "aaaaaaaa", "hour", "persom", "qerson", "clack", "persona", "personz", "zperson",
        };
        for (String word : words) {
            fault("person;|" + word + ";");
            fault("person;|" + word + " 20 20 20;");
        }
        for (String word : new String[] {"hour", "hourss", "fir", "fires", "ours", "firf", "h", "work", "go"}) {
            fault("work |" + word + " 1 1;");
        }
        fault("|perSon;");
        fault("|perso.n;");
    }

    private static void aWordThatCantStandThere() {
        Checks.sentence(4, "the place of the first byte of the first TOKEN that can't stand there");
        fault("|hours 1 1;");
        fault("|fire 1 1;");
        fault("|20;");
        fault("clock |person;");
        fault("clock |;");
        fault("person;go |go 1 1;");
        fault("person;go 1 |;");
        fault("person;go 1 1 |fire;");
        fault("person;wait |hours 1 1;");
        fault("march |fire 1 1;");
        fault("march 1 1 |;");
        fault("work |1 1;");
        fault("work |;");
        fault("work |person;");
        fault("work fire |hours 1 1;");
        fault("work fire 1 |;");
    }

    private static void numbersAboveNineHundred() {
        Checks.sentence(4, "a NUMBER above 999 or with a 0 ahead of others, that TOKEN's");
        String[] items = {"clock |#;", "person;go |# 1 1;", "person;wait 1 |# 1;", "march 0 1 |#;", "work hours |# 1;", "|#;"};
        for (String item : items) {
            fault(item.replace("#", "1000"));
            fault(item.replace("#", "9990"));
            fault(item.replace("#", "99999999999999999999999999"));
        }
        Checks.due("999 is none above it", read("clock 999;", 1).count(5), 999);
    }

    private static void numbersThatWrapAround() {
        Checks.sentence(4, "a NUMBER above 999");
        // 2 to the 8th, 16th, 32nd and 64th, and a number that would do.
        for (String number : new String[] {"276", "65556", "4294967316", "2147483668", "18446744073709551636"}) {
            fault("person;go 0 1 |" + number + ";");
            fault("march |" + number + " 1 1;");
            fault("work fire 1 |" + number + ";");
        }
        fault("clock |4294967316;");
        fault("clock |" + "1".repeat(380) + ";");
    }

    private static void numbersWithAZeroAhead() {
        Checks.sentence(4, "with a 0 ahead of others");
        fault("clock |020;");
        fault("person;go |00 1 1;");
        fault("person;go |01 1 1;");
        fault("person;go 1 |01 1;");
        fault("person;wait |01 1 1;");
        fault("march |000 1 1;");
        fault("work fire 1 |00;");
        fault("work fire 1 |0000000000000000001;");
        Checks.due("a 0 alone", read("person;go 0 1 1;", 2).way(0, 0, 1), 0);
        Checks.due("a 0 behind others", read("clock 100;", 1).count(5), 100);
        fault("work fire 1 0 |0;");
    }

    /** At each bar the text may end, with blanks behind it or without: each time that is too early. */
    private static void tooEarly(String marked) {
        for (int bar = marked.indexOf('|'); bar >= 0; bar = marked.indexOf('|', bar + 1)) {
            String text = marked.substring(0, bar).replace("|", "");
            fault(text + "|");
            fault(text + "   |");
        }
    }

    private static void theTextEndsTooEarly() {
        Checks.sentence(4, "the text's length, if it ends too early");
        tooEarly("clock| 20|;");
        tooEarly("person|;");
        tooEarly("person;go| 1| 1| 1|;");
        tooEarly("person;wait| 1| 1| 1|;");
        tooEarly("march| 1| 1| 1|;");
        tooEarly("work| hours| 1| 1|;");
        tooEarly("work fire| 1| 1|;");
        read("person;   ", 1);
    }

    private static void theFirstOfSeveralFaults() {
        Checks.sentence(4, "the place of the first byte of the first TOKEN");
        fault("clock |9;persons;7");
        fault("clock |1000 Q");
        fault("person;go |240 0 0;");
        fault("person;go 1 |0 0;");
        fault("person;go 1 1 |0 0");
        fault("|x clock 9;");
        fault("march 1 |241 1000;");
        fault("work |fires 1000 1;");
        fault("|;;");
        fault("person;clock 20;|clock 9;");
    }

    private static void aFaultChangesNothing() {
        Checks.sentence(4, "-10 less FAULT: nothing changes (THE TEXT, too, stays)");
        Refused.due("day()", Refused::busy, StepClock::day, -10 - 22);
        Refused.due("day() at the end", Refused::atTheEnd, StepClock::day, -10 - 22);
        Refused.due("two of them", Refused::busy, x -> Math.max(x.day(), x.day()), -10 - 22);
    }

    private static void aFaultThatIsMended() {
        Checks.sentence(4, "(THE TEXT, too, stays)");
        StepClock x = new StepClock();
        Checks.type(x, "clock 20;person;go 1 2");
        Checks.due("day()", x.day(), -10 - 22);
        Checks.due("count(4)", x.count(4), 22);
        Checks.due("count(0)", x.count(0), 0);
        Checks.due("count(5)", x.count(5), 90);
        Checks.type(x, " 3;");
        Checks.due("day()", x.day(), 3);
        Checks.due("count(5)", x.count(5), 20);
        Checks.due("count(0)", x.count(0), 1);
        Checks.due("way(0, 0, 3)", x.way(0, 0, 3), 3);
    }

    private static void theTextIsEmptyThen() {
        Checks.sentence(4, "THE TEXT becomes THE DAY, and is empty then");
        StepClock x = new StepClock();
        Checks.type(x, "person;" + " ".repeat(393));
        Checks.due("day()", x.day(), 1);
        Checks.due("count(4)", x.count(4), 0);
        Checks.due("clear()", x.clear(), 0);
        Checks.due("there is room again", Checks.type(x, " ".repeat(400)), 400);
    }

    private static void aDayReadAnewIsAtFirst() {
        Checks.sentence(4, "(A DAY read anew: NOW is as at first, nobody sits");
        StepClock x = Checks.told("clock 10;person;go 0 9 2;person;go 0 9 9;");
        x.sits(2);
        x.one(50);
        x.go(3);
        Checks.due("it is not", x.now(0) + x.now(1) + x.now(3) + x.now(4), 3 + 56 + 1 + 2);
        Checks.type(x, "clock 10;person;go 0 9 2;person;go 0 9 9;");
        Checks.due("day()", x.day(), 5);
        for (int what = 0; what < 6; what++) {
            Checks.due("now(" + what + ")", x.now(what), 0);
        }
        for (int p = 0; p < 2; p++) {
            for (int what = 0; what < 4; what++) {
                Checks.due("person(" + p + ", " + what + ")", x.person(p, what), 0);
            }
        }
        Checks.due("nobody sits", x.go(1), 11);
    }

    private static void aDayReadAnewLosesImages() {
        Checks.sentence(4, "IMAGES are gone");
        for (String text : new String[] {"", "person;"}) {
            StepClock x = Checks.told("person;");
            x.keep(0);
            x.keep(1);
            Checks.type(x, text);
            Checks.due("day()", x.day(), text.isEmpty() ? 0 : 1);
            Checks.due("back(0)", x.back(0), StepClock.STATE);
            Checks.due("back(1)", x.back(1), StepClock.STATE);
        }
    }

    private static void aDayReadAnewKeepsStairAndTrace() {
        Checks.sentence(4, "THE STAIR, THE TRACE stay.)");
        StepClock x = Checks.told("person;");
        x.stair(7);
        x.stair(9);
        x.mark(5, 0);
        Checks.due("day()", x.day(), 0);
        Checks.due("count(3)", x.count(3), 2);
        Checks.due("worn(16, 0, 2)", x.worn(16, 0, 2), 1);
        Checks.due("trace()", x.trace(), 100001);
    }

    private static void aDayReadAnewTakesTheOldOneAway() {
        Checks.sentence(4, "THE TEXT becomes THE DAY");
        StepClock x = Checks.told("clock 10;person;wait 1 1 1;march 0 1 9;work fire 1 1;");
        Checks.due("hangs(0)", x.hangs(0), 1);
        Checks.due("day() of nothing", x.day(), 0);
        int[] counts = {0, 0, 0, 0, 0, 90};
        for (int what = 0; what < counts.length; what++) {
            Checks.due("count(" + what + ")", x.count(what), counts[what]);
        }
        Checks.due("way(0, 0, 0)", x.way(0, 0, 0), StepClock.BAD);
        Checks.due("march(0, 0)", x.march(0, 0), StepClock.BAD);
        Checks.due("work(0, 0)", x.work(0, 0), StepClock.BAD);
        Checks.due("hangs(0)", x.hangs(0), 0);
        Checks.due("hangs(1)", x.hangs(1), 0);
        Checks.due("steps(240)", x.steps(240), 0);
        Checks.due("go(1)", x.go(1), 0);
        Checks.type(x, "person;");
        Checks.due("day()", x.day(), 1);
        Checks.due("its old ways don't come back", x.way(0, 0, 0), StepClock.BAD);
    }

    // ---- promises 5 to 7

    private static StepClock twoPeople() {
        return Checks.told("person;go 11 12 13;wait 14 15 16;person;wait 17 18 19;person;"
                + "march 21 22 23;march 24 25 26;work hours 31 32;work fire 33 34;");
    }

    private static void wayOfNobody() {
        Checks.sentence(5, "Of WAY k of a person: 0 GO (0) or WAIT (1), 1 M or H, 2 N, 3 P. BAD.");
        Refused.badNumbers("way(p, 0, 0)", DayEdgesTest::twoPeople, (x, p) -> x.way(p, 0, 0), 3, 4, 5, 6);
        Refused.badNumbers("way(p, 0, 0) of a new object", StepClock::new, (x, p) -> x.way(p, 0, 0), 0, 1);
        StepClock six = Checks.told("person;go 1 2 3;".repeat(6));
        Checks.due("way(5, 0, 3)", six.way(5, 0, 3), 3);
        Checks.due("way(6, 0, 3)", six.way(6, 0, 3), StepClock.BAD);
    }

    private static void wayThatThereIsNot() {
        Checks.sentence(5, "Of WAY k of a person");
        Refused.badNumbers("way(0, k, 0)", DayEdgesTest::twoPeople, (x, k) -> x.way(0, k, 0), 2, 3, 4);
        Refused.badNumbers("way(1, k, 0)", DayEdgesTest::twoPeople, (x, k) -> x.way(1, k, 0), 1, 2, 4);
        Refused.badNumbers("way(2, k, 0)", DayEdgesTest::twoPeople, (x, k) -> x.way(2, k, 0), 0, 1, 4);
        StepClock four = Checks.told("person;" + "go 1 2 3;".repeat(3) + "wait 4 5 6;person;go 7 8 9;");
        Checks.due("way(0, 3, 1)", four.way(0, 3, 1), 4);
        Checks.due("way(0, 4, 1)", four.way(0, 4, 1), StepClock.BAD);
    }

    private static void wayOtherWhat() {
        Checks.sentence(5, "0 GO (0) or WAIT (1), 1 M or H, 2 N, 3 P. BAD.");
        int[][] parts = {{0, 11, 12, 13}, {1, 14, 15, 16}};
        StepClock x = twoPeople();
        for (int k = 0; k < 2; k++) {
            for (int what = 0; what < 4; what++) {
                Checks.due("way(0, " + k + ", " + what + ")", x.way(0, k, what), parts[k][what]);
            }
        }
        Refused.badNumbers("way(0, 0, what)", DayEdgesTest::twoPeople, (y, what) -> y.way(0, 0, what), 4, 5);
    }

    private static void wayGoIsZeroAndWaitOne() {
        Checks.sentence(5, "0 GO (0) or WAIT (1)");
        StepClock x = twoPeople();
        Checks.due("a go", x.way(0, 0, 0), 0);
        Checks.due("a wait", x.way(0, 1, 0), 1);
        Checks.due("a wait first", x.way(1, 0, 0), 1);
    }

    private static void marchThatThereIsNot() {
        Checks.sentence(6, "Of a MARCH: 0 M, 1 L, 2 P. BAD.");
        Refused.badNumbers("march(m, 0)", DayEdgesTest::twoPeople, (x, m) -> x.march(m, 0), 2, 3, 4);
        Refused.badNumbers("march(m, 2) of a new object", StepClock::new, (x, m) -> x.march(m, 2), 0);
        StepClock four = Checks.told("march 1 2 3;".repeat(3) + "march 4 5 6;");
        Checks.due("march(3, 2)", four.march(3, 2), 6);
        Checks.due("march(4, 2)", four.march(4, 2), StepClock.BAD);
    }

    private static void marchOtherWhat() {
        Checks.sentence(6, "0 M, 1 L, 2 P. BAD.");
        StepClock x = twoPeople();
        for (int what = 0; what < 3; what++) {
            Checks.due("march(0, " + what + ")", x.march(0, what), 21 + what);
            Checks.due("march(1, " + what + ")", x.march(1, what), 24 + what);
        }
        Refused.badNumbers("march(0, what)", DayEdgesTest::twoPeople, (y, what) -> y.march(0, what), 3, 4);
    }

    private static void workThatThereIsNot() {
        Checks.sentence(7, "Of a WORK: 0 by HOURS (0) or FIRE (1), 1 D, 2 WORTH. BAD.");
        Refused.badNumbers("work(w, 0)", DayEdgesTest::twoPeople, (x, w) -> x.work(w, 0), 2, 3, 6);
        Refused.badNumbers("work(w, 2) of a new object", StepClock::new, (x, w) -> x.work(w, 2), 0);
        StepClock six = Checks.told("work fire 1 2;".repeat(5) + "work hours 3 4;");
        Checks.due("work(5, 2)", six.work(5, 2), 4);
        Checks.due("work(6, 2)", six.work(6, 2), StepClock.BAD);
    }

    private static void workOtherWhat() {
        Checks.sentence(7, "1 D, 2 WORTH. BAD.");
        StepClock x = twoPeople();
        for (int w = 0; w < 2; w++) {
            Checks.due("work(" + w + ", 1)", x.work(w, 1), 31 + 2 * w);
            Checks.due("work(" + w + ", 2)", x.work(w, 2), 32 + 2 * w);
        }
        Refused.badNumbers("work(0, what)", DayEdgesTest::twoPeople, (y, what) -> y.work(0, what), 3, 4);
    }

    private static void workHoursIsZeroAndFireOne() {
        Checks.sentence(7, "0 by HOURS (0) or FIRE (1)");
        StepClock x = twoPeople();
        Checks.due("by hours", x.work(0, 0), 0);
        Checks.due("by fire", x.work(1, 0), 1);
    }
}
