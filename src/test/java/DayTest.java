/** Promises 1 to 7, and what count() tells of the day (29). */
public final class DayTest {
    public static void main(String[] args) {
        aNewObject();
        typing();
        typingUpToTheLimit();
        clearing();
        aWholeDay();
        blanks();
        faults();
        faultsOfTooMany();
        faultsThatChangeNothing();
        theLimitsThemselves();
        aDayReadAnew();
        Checks.end("DayTest");
    }

    private static void aNewObject() {
        StepClock x = new StepClock();
        int[] counts = {0, 0, 0, 0, 0, 90};
        for (int what = 0; what < counts.length; what++) {
            Checks.due("count(" + what + ")", x.count(what), counts[what]);
        }
        for (int what = 0; what < 6; what++) {
            Checks.due("now(" + what + ")", x.now(what), 0);
        }
        Checks.due("trace()", x.trace(), 0);
        Checks.due("person(0, 0)", x.person(0, 0), StepClock.BAD);
        Checks.due("way(0, 0, 0)", x.way(0, 0, 0), StepClock.BAD);
        Checks.due("march(0, 0)", x.march(0, 0), StepClock.BAD);
        Checks.due("work(0, 0)", x.work(0, 0), StepClock.BAD);
        Checks.due("back(0)", x.back(0), StepClock.STATE);
        Checks.due("back(1)", x.back(1), StepClock.STATE);
        Checks.due("sits(-1)", x.sits(-1), 0);
        Checks.due("nobody can sit", x.now(4), 0);
        Checks.due("go(240)", x.go(240), 0);
    }

    private static void typing() {
        StepClock x = new StepClock();
        Checks.due("n 0", x.type(65, 0), StepClock.BAD);
        Checks.due("n 9", x.type(65, 9), StepClock.BAD);
        Checks.due("n below 0", x.type(65, -1), StepClock.BAD);
        Checks.due("n least", x.type(65, Integer.MIN_VALUE), StepClock.BAD);
        Checks.due("count(4)", x.count(4), 0);
        // "clock 10;" with bytes above the lowest n that do not count.
        Checks.due("clo", x.type(0x7777_7777_7763_6c6fL, 3), 3);
        Checks.due("ck", x.type(0xffff_ffff_ffff_636bL, 2), 5);
        Checks.due("' 10;'", x.type(0x20_31_30_3bL, 4), 9);
        Checks.due("count(4)", x.count(4), 9);
        Checks.due("day()", x.day(), 1);
        Checks.due("K", x.count(5), 10);
    }

    private static void typingUpToTheLimit() {
        StepClock x = new StepClock();
        for (int i = 1; i <= 49; i++) {
            Checks.due("type " + i, x.type(0x2020202020202020L, 8), 8 * i);
        }
        Checks.due("7 more", x.type(0x20202020202020L, 7), 399);
        Checks.due("2 are too many", x.type(0x2020, 2), StepClock.FULL);
        Checks.due("9 are BAD first", x.type(0x2020, 9), StepClock.BAD);
        Checks.due("count(4)", x.count(4), 399);
        Checks.due("1 is not", x.type(0x20, 1), 400);
        Checks.due("1 more is", x.type(0x20, 1), StepClock.FULL);
        Checks.due("count(4)", x.count(4), 400);
        Checks.due("blanks alone", x.day(), 0);
        Checks.due("count(4)", x.count(4), 0);
        Checks.due("room again", x.type(0x20, 1), 1);
    }

    private static void clearing() {
        StepClock x = new StepClock();
        Checks.due("clear()", x.clear(), 0);
        Checks.type(x, "person;cl");
        Checks.due("clear()", x.clear(), 9);
        Checks.due("count(4)", x.count(4), 0);
        Checks.due("clear()", x.clear(), 0);
        Checks.type(x, "march 1 2 3;");
        Checks.due("day()", x.day(), 1);
        Checks.due("clear() behind day()", x.clear(), 0);
    }

    private static void aWholeDay() {
        StepClock x = Checks.told("march 7 8 9;person;person;go 239 999 99;wait 1 2 3;work fire 240 0;"
                + "clock 999;wait 99 1 1;work hours 999 99;person;go 0 1 2;");
        int[] counts = {3, 1, 2, 0, 0, 999};
        for (int what = 0; what < counts.length; what++) {
            Checks.due("count(" + what + ")", x.count(what), counts[what]);
        }
        Checks.due("count(6)", x.count(6), StepClock.BAD);
        Checks.due("count(-1)", x.count(-1), StepClock.BAD);
        row(x, 1, 0, 0, 239, 999, 99);
        row(x, 1, 1, 1, 1, 2, 3);
        row(x, 1, 2, 1, 99, 1, 1);
        row(x, 2, 0, 0, 0, 1, 2);
        int[][] noWays = {{0, 0}, {1, 3}, {1, 4}, {2, 1}, {3, 0}, {-1, 0}, {1, -1}, {6, 0}, {99, 99}};
        for (int[] no : noWays) {
            Checks.due("no way " + no[0] + " " + no[1], x.way(no[0], no[1], 0), StepClock.BAD);
        }
        Checks.due("way(1, 0, 4)", x.way(1, 0, 4), StepClock.BAD);
        Checks.due("way(1, 0, -1)", x.way(1, 0, -1), StepClock.BAD);
        int[] march = {7, 8, 9};
        int[] fire = {1, 240, 0};
        int[] hours = {0, 999, 99};
        for (int what = 0; what < 3; what++) {
            Checks.due("march(0, " + what + ")", x.march(0, what), march[what]);
            Checks.due("work(0, " + what + ")", x.work(0, what), fire[what]);
            Checks.due("work(1, " + what + ")", x.work(1, what), hours[what]);
        }
        for (int no : new int[] {-1, 3, Integer.MIN_VALUE, Integer.MAX_VALUE}) {
            Checks.due("march(0, no)", x.march(0, no), StepClock.BAD);
            Checks.due("march(no, 0)", x.march(no, 0), StepClock.BAD);
            Checks.due("work(0, no)", x.work(0, no), StepClock.BAD);
            Checks.due("work(no, 0)", x.work(no, 0), StepClock.BAD);
        }
        Checks.due("march(1, 0)", x.march(1, 0), StepClock.BAD);
        Checks.due("work(2, 0)", x.work(2, 0), StepClock.BAD);
    }

    private static void row(StepClock x, int p, int k, int kind, int from, int steps, int pace) {
        int[] want = {kind, from, steps, pace};
        for (int what = 0; what < 4; what++) {
            Checks.due("way(" + p + ", " + k + ", " + what + ")", x.way(p, k, what), want[what]);
        }
    }

    private static void blanks() {
        items("", 0);
        items("   ", 0);
        items("  person  ;  go   1   2   3  ;  ", 2);
        items("person;go1 2 3;march4 5 6;work fire7 8;clock10;", 5);
        items("clock 10;person;person;", 3);
    }

    private static void items(String text, int want) {
        StepClock x = new StepClock();
        Checks.type(x, text);
        Checks.due("day() of '" + text + "'", x.day(), want);
        Checks.due("count(4) behind it", x.count(4), 0);
    }

    private static void faults() {
        // A bar stands ahead of the byte that is the fault.
        String[] texts = {
            "|;", "person;|;", "person;|5;", "|go 1 2 3;", "|wait 1 2 3;",
            "clock 10;|go 1 2 3;", "|hours 1 2;", "|fire;", "|persons;", "|perso", "|clocks 10;",
            "|Clock 10;", "|cLock 10;", "person;|xo 1 1 1;", "|glock 10;", "clock |zz;", "|personz;", "|goo 1 2 3;", "|7;", "|_", "|\t;",
            "person;|\u00e9", "person|,", "person |10;", "person |person;", "|personperson;",
            "clock |9;", "clock |1000;", "clock |010;", "clock |99999999999999999999;", "clock |;",
            "clock |4294967306;", "clock 10 |20;", "clock 10|clock 10;", "clock 10;|clock 10;",
            "clock |ten;", "clock |-10;", "clock 10|.5;",
            "person;go |240 1 1;", "person;go 0 |0 1;", "person;go 0 |1000 1;", "person;go 0 1 |0;",
            "person;go 0 1 |100;", "person;go |00 1 1;", "person;go 0 1 1 |1;", "person;go 0 1|;",
            "person;wait |0 1 1;", "person;wait |100 1 1;", "person;wait 1 |0 1;", "person;wait 1 |01 1;",
            "person;wait 1 |1000 1;", "person;wait 1 1 |0;", "person;wait 1 1 |100;", "person;wait |go 1;",
            "march |240 1 1;", "march 0 |0 1;", "march 0 |241 1;", "march 0 1 |0;", "march 0 1 |1000;",
            "march 0 1 1 |person;", "work |5 5;", "work |;", "work |work 5 5;", "work |hour 5 5;",
            "work hours |0 1;", "work hours |1000 1;", "work hours 1 |100;", "work fire |0 1;",
            "work fire |241 1;", "work fire 240 |100;", "work fire 1|;", "work fire 1 1 |1;",
            "clock 10|", "clock|", "clock 10  |", "person|", "person;go|", "person;go 1|", "person;go 1 2|",
            "person;go 1 2 3|", "person;wait 9|", "march|", "march 1 2|", "work|", "work fire|",
            "work hours 1|", "work hours 1 1 |", "person;   |",
            // A word or number that can't be ahead of the place that is wrong only by what follows.
            "clock |5 Q", "person;go |240 Q", "person;person;|Q;;", "clock 10 |Q;clock 5;",
        };
        for (String marked : texts) {
            int place = marked.indexOf('|');
            String text = marked.replace("|", "");
            int want = text.equals("person;   ") ? 1 : -10 - place;
            StepClock x = new StepClock();
            Checks.type(x, text);
            Checks.due("day() of '" + text + "'", x.day(), want);
        }
        int[] noTokens = {0, 9, 10, 13, 31, 33, 47, 58, 60, 64, 'A', 'Z', 96, 123, 127, 128, 160, 255};
        for (int value : noTokens) {
            StepClock x = new StepClock();
            Checks.type(x, "person; " + (char) value);
            Checks.due("day() with byte " + value, x.day(), -18);
        }
    }

    private static void faultsOfTooMany() {
        tooMany("person;", "go 1 1 1;", 4);
        tooMany("person;", "wait 1 1 1;", 4);
        tooMany("", "person;", 6);
        tooMany("", "march 1 1 1;", 4);
        tooMany("", "work hours 1 1;", 6);
        tooMany("", "work fire 1 1;", 6);
        tooMany("", "clock 20;", 1);
        items("person;go 1 1 1;wait 1 1 1;go 1 1 1;wait 1 1 1;person;go 1 1 1;", 7);
    }

    private static void tooMany(String ahead, String item, int most) {
        String text = ahead + item.repeat(most);
        items(text, most + (ahead.isEmpty() ? 0 : 1));
        StepClock x = new StepClock();
        Checks.type(x, text + item);
        Checks.due("one too many: " + item, x.day(), -10 - text.length());
    }

    private static void faultsThatChangeNothing() {
        StepClock x = Checks.told("clock 20;person;go 0 50 10;wait 1 5 5;march 0 2 3;work fire 5 6;");
        x.go(3);
        x.keep(1);
        x.sits(1);
        Checks.type(x, "clock 30;person;person;go 9 9 9;march 1 1 1;work hours 1 1;go 1 1");
        Checks.due("day()", x.day(), -10 - 65);
        Checks.due("day() again", x.day(), -10 - 65);
        int[] counts = {1, 1, 1, 0, 65, 20};
        for (int what = 0; what < counts.length; what++) {
            Checks.due("count(" + what + ")", x.count(what), counts[what]);
        }
        row(x, 0, 0, 0, 0, 50, 10);
        row(x, 0, 1, 1, 1, 5, 5);
        Checks.due("MINUTE", x.now(0), 3);
        Checks.due("STEPS", x.now(1), 36);
        Checks.due("who sits", x.now(4), 1);
        Checks.due("steps(3)", x.steps(3), 36);
        Checks.due("back(1)", x.back(1), 3);
        Checks.type(x, " 1;");
        Checks.due("mended", x.day(), 7);
        Checks.due("people", x.count(0), 2);
        Checks.due("K", x.count(5), 30);
    }

    private static void theLimitsThemselves() {
        items("clock 10;person;go 0 1 1;go 239 999 99;wait 1 1 1;wait 99 999 99;", 6);
        StepClock full = new StepClock();
        Checks.type(full, ("person;" + "go 9 8 7;wait 6 5 4;".repeat(2)).repeat(6));
        Checks.due("all ways there may be", full.day(), 30);
        for (int p = 0; p < 6; p++) {
            for (int k = 0; k < 4; k += 2) {
                row(full, p, k, 0, 9, 8, 7);
                row(full, p, k + 1, 1, 6, 5, 4);
            }
        }
        items("clock 999;march 0 1 1;march 239 240 999;", 3);
        items("work hours 1 0;work hours 999 99;work fire 1 0;work fire 240 99;", 4);
    }

    private static void aDayReadAnew() {
        StepClock x = Checks.told("clock 20;person;go 0 50 10;march 0 9 1;work fire 1 1;");
        x.sits(1);
        x.one(7);
        x.go(4);
        x.keep(0);
        x.keep(1);
        x.stair(5);
        x.mark(1, 0);
        Checks.type(x, "person;person;");
        Checks.due("day()", x.day(), 2);
        int[] counts = {2, 0, 0, 1, 0, 90};
        for (int what = 0; what < counts.length; what++) {
            Checks.due("count(" + what + ")", x.count(what), counts[what]);
        }
        for (int what = 0; what < 6; what++) {
            Checks.due("now(" + what + ")", x.now(what), 0);
        }
        Checks.due("its ways are gone", x.way(0, 0, 0), StepClock.BAD);
        Checks.due("its steps", x.steps(240), 0);
        Checks.due("back(0)", x.back(0), StepClock.STATE);
        Checks.due("back(1)", x.back(1), StepClock.STATE);
        Checks.due("the trace stays", x.trace(), 11);
    }
}
