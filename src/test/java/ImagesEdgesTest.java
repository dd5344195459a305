/** Promises 26 to 30: each sentence of the document that names an edge has a test of its own here. */
public final class ImagesEdgesTest {
    private static final int[] TRACES = {1, 11, 101, 1011, 10101, 100001};

    public static void main(String[] args) {
        markAPerson();
        markAWalker();
        markASitter();
        markASoldier();
        markAStriker();
        markAGuest();
        markOfAKindUnderAnother();
        markAtFirst();
        markAtTheEnd();
        markBelowNothing();
        markOfNoSuchKind();
        markOfNobody();
        markChangesTheTraceAlone();

        keepTellsTheMinute();
        keepOfNoSuchImage();
        keepOverAnother();
        keepIsNoOtherImage();

        backToAllOfNow();
        backToNothingElse();
        backWithoutAnImage();
        backOfNoSuchImage();
        backIsBadAheadOfState();
        backAgainAndAgain();
        backFromAndToTheEnd();
        backBehindAnew();

        countAtFirst();
        countOfTheMost();
        countOtherWhat();

        traceAtFirst();
        traceOfEachKind();
        traceAsOftenAsABodyIsAsked();
        traceOfAllCallsEver();
        traceOfRefusedCalls();
        traceOfAllTheCallsThatThereMayBe();
        Checks.end("ImagesEdgesTest", 26, 30);
    }

    /** Behind 65 minutes: the first took 65 steps and has 35 left; hour 19. */
    private static StepClock atMinute65() {
        StepClock x = Checks.told("clock 10;person;go 0 100 1;person;march 0 65 2;");
        x.go(65);
        return x;
    }

    private static void mark(StepClock x, int kind, int walks, int stays) {
        Checks.due("mark(" + kind + ", 0)", x.mark(kind, 0), walks);
        Checks.due("mark(" + kind + ", 1)", x.mark(kind, 1), stays);
        Checks.due("trace()", x.trace(), 2L * TRACES[kind]);
    }

    // ---- promise 26

    private static void markAPerson() {
        Checks.sentence(26, "PERSON STEPS it took (1)");
        mark(atMinute65(), 0, 65, 0);
    }

    private static void markAWalker() {
        Checks.sentence(26, "WALKER up, and what is left of its WAY (10)");
        mark(atMinute65(), 1, 65 + 35, 0);
    }

    private static void markASitter() {
        Checks.sentence(26, "SITTER up less HOUR (100)");
        mark(atMinute65(), 2, 65 - 19, -19);
    }

    private static void markASoldier() {
        Checks.sentence(26, "SOLDIER up times 2 (1000)");
        mark(atMinute65(), 3, 2 * (65 + 35), 0);
    }

    private static void markAStriker() {
        Checks.sentence(26, "STRIKER up, and MINUTE (10000)");
        mark(atMinute65(), 4, 65 - 19 + 65, -19 + 65);
    }

    private static void markAGuest() {
        Checks.sentence(26, "GUEST up, and the even HOUR (100000)");
        mark(atMinute65(), 5, 65 + 1, 1);
        StepClock x = Checks.told("person;");
        x.go(59);
        Checks.due("at minute 59", x.mark(5, 0), 0);
        x.go(1);
        Checks.due("at minute 60", x.mark(5, 0), 1);
    }

    private static void markOfAKindUnderAnother() {
        Checks.sentence(26, "0 PERSON; 1 WALKER, 2 SITTER, 5 GUEST (each under PERSON); 3 SOLDIER (under WALKER); 4 STRIKER (under SITTER)");
        int[] want = {65, 100, 46, 200, 111, 66};
        for (int kind = 0; kind < 6; kind++) {
            Checks.due("mark(" + kind + ", 0)", atMinute65().mark(kind, 0), want[kind]);
        }
    }

    private static void markAtFirst() {
        Checks.sentence(26, "MARK of a PERSON NOW as if of a KIND");
        for (int kind = 0; kind < 6; kind++) {
            StepClock x = Checks.told("person;go 0 9 9;");
            Checks.due("mark(" + kind + ", 0)", x.mark(kind, 0), 0);
        }
    }

    private static void markAtTheEnd() {
        Checks.sentence(26, "MARK of a PERSON NOW");
        int[] want = {999, 999, 999 - 99, 1998, 999 - 99 + 240, 999 + 4};
        for (int kind = 0; kind < 6; kind++) {
            StepClock x = Checks.told("clock 10;" + "person;".repeat(6) + "go 0 999 99;");
            x.go(240);
            x.sits(63);
            Checks.due("mark(" + kind + ", 5)", x.mark(kind, 5), want[kind]);
        }
    }

    private static void markBelowNothing() {
        Checks.sentence(26, "What none is, where a number may be below 0.");
        StepClock x = Checks.told("clock 10;person;");
        x.one(9);
        Checks.due("hour 0", x.mark(2, 0), 0);
        x.one(1);
        Checks.due("hour 1, the number of BAD", x.mark(2, 0), -1);
        x.one(10);
        Checks.due("hour 2, the number of STATE", x.mark(2, 0), -2);
        for (int i = 0; i < 100; i++) {
            x.one(9999);
        }
        Checks.due("a late hour", x.mark(2, 0), -(20 + 999900) / 10);
    }

    private static void markOfNoSuchKind() {
        Checks.sentence(26, "`int mark(int kind, int p)`: MARK. NO: BAD.");
        for (int kind : new int[] {6, 7, 10, 100}) {
            Refused.due("mark(" + kind + ", 0)", Refused::busy, x -> x.mark(kind, 0), StepClock.NO);
        }
        for (int kind : Refused.FAR) {
            Refused.due("mark(" + kind + ", 0)", Refused::busy, x -> x.mark(kind, 0), StepClock.NO);
        }
    }

    private static void markOfNobody() {
        Checks.sentence(26, "MARK. NO: BAD.");
        for (int kind = 0; kind < 6; kind++) {
            int asked = kind;
            Refused.due("mark(" + kind + ", 2)", Refused::busy, x -> x.mark(asked, 2), StepClock.NO);
            Refused.due("mark(" + kind + ", 0) of a new object", StepClock::new, x -> x.mark(asked, 0), StepClock.NO);
            for (int p : Refused.FAR) {
                Refused.due("mark(" + kind + ", " + p + ")", Refused::busy, x -> x.mark(asked, p), StepClock.NO);
            }
        }
    }

    private static void markChangesTheTraceAlone() {
        Checks.sentence(26, "come to THE TRACE");
        StepClock x = atMinute65();
        for (int kind = 0; kind < 6; kind++) {
            x.mark(kind, 0);
        }
        int[] now = {65, 195, 19, 1, 0, 1};
        int[] person = {0, 1, 35, 65};
        for (int what = 0; what < now.length; what++) {
            Checks.due("now(" + what + ")", x.now(what), now[what]);
        }
        for (int what = 0; what < person.length; what++) {
            Checks.due("person(0, " + what + ")", x.person(0, what), person[what]);
        }
    }

    // ---- promise 27

    private static void keepTellsTheMinute() {
        Checks.sentence(27, "An IMAGE is kept: the MINUTE. BAD.");
        StepClock x = new StepClock();
        Checks.due("keep(0)", x.keep(0), 0);
        x.go(1);
        Checks.due("keep(1)", x.keep(1), 1);
        x.go(240);
        Checks.due("keep(0) at the end", x.keep(0), 240);
        Checks.due("now(0)", x.now(0), 240);
    }

    private static void keepOfNoSuchImage() {
        Checks.sentence(27, "IMAGES 0, 1 keep NOW");
        Refused.badNumbers("keep(image)", Refused::busy, StepClock::keep, 2, 3);
        Refused.badNumbers("keep(image) of a new object", StepClock::new, StepClock::keep, 2);
    }

    private static void keepOverAnother() {
        Checks.sentence(27, "An IMAGE is kept");
        for (int image = 0; image < 2; image++) {
            StepClock x = Checks.told("person;go 0 9 2;");
            x.go(1);
            x.keep(image);
            x.go(2);
            Checks.due("keep over it", x.keep(image), 3);
            x.go(1);
            Checks.due("back", x.back(image), 3);
            Checks.due("STEPS", x.now(1), 6);
            Checks.due("what is left", x.person(0, 2), 3);
        }
    }

    private static void keepIsNoOtherImage() {
        Checks.sentence(27, "IMAGES 0, 1");
        for (int image = 0; image < 2; image++) {
            StepClock x = Checks.told("person;go 0 9 2;");
            x.go(1);
            x.keep(image);
            x.go(1);
            Checks.due("the other was not kept", x.back(1 - image), StepClock.STATE);
            x.keep(1 - image);
            x.go(1);
            Checks.due("back", x.back(image), 1);
            Checks.due("back to the other", x.back(1 - image), 2);
        }
    }

    // ---- promise 28

    private static String now(StepClock x) {
        StringBuilder all = new StringBuilder();
        for (int what = 0; what < 6; what++) {
            all.append(x.now(what)).append(' ');
        }
        for (int p = 0; p < x.count(0); p++) {
            for (int what = 0; what < 4; what++) {
                all.append(x.person(p, what)).append(' ');
            }
        }
        return all.toString();
    }

    private static void backToAllOfNow() {
        Checks.sentence(28, "(MINUTE, STEPS, each one's WAY and what is left, STEPS it took, who sits)");
        StepClock x = Checks.told("clock 10;person;go 0 6 3;go 0 9 2;person;go 0 30 7;person;wait 1 5 5;"
                + "person;go 0 9 9;person;person;go 0 99 1;");
        x.sits(2);
        x.go(1);
        x.sits(8 | 32);
        x.go(2);
        x.one(5);
        String kept = now(x);
        Checks.due("now", kept, "3 42 4 3 40 0 1 1 7 8 0 1 16 14 1 0 0 5 1 0 0 9 0 0 0 0 0 1 98 1 ");
        x.keep(1);
        x.sits(1);
        x.go(100);
        x.one(77);
        Checks.due("back(1)", x.back(1), 3);
        Checks.due("now", now(x), kept);
        Checks.due("it goes on from there", x.go(1), 9);
        x.anew();
        Checks.due("back(1)", x.back(1), 3);
        Checks.due("now", now(x), kept);
    }

    private static void backToNothingElse() {
        Checks.sentence(28, "who sits); nothing else.");
        StepClock x = Checks.told("clock 20;person;go 0 9 1;");
        x.stair(1);
        x.type('p', 1);
        x.mark(0, 0);
        x.keep(0);
        x.stair(4);
        x.type('e', 1);
        x.mark(0, 0);
        x.go(1);
        x.keep(1);
        Checks.due("back(0)", x.back(0), 0);
        Checks.due("THE STAIR", x.count(3), 2);
        Checks.due("its days", x.worn(5, 0, 0), 1);
        Checks.due("THE TRACE", x.trace(), 2);
        Checks.due("THE TEXT", x.count(4), 2);
        Checks.due("THE DAY", x.count(5), 20);
        Checks.due("the other image", x.back(1), 1);
    }

    private static void backWithoutAnImage() {
        Checks.sentence(28, "BAD; STATE: none was kept.");
        for (int image = 0; image < 2; image++) {
            int asked = image;
            Refused.due("back(" + image + ") of a new object", StepClock::new, x -> x.back(asked), StepClock.STATE);
        }
        Refused.due("back(1), where 0 was kept", Refused::busy, x -> x.back(1), StepClock.STATE);
        Refused.due("back(1) behind a day", () -> {
            StepClock x = Refused.atTheEnd();
            x.clear();
            x.day();
            x.keep(0);
            return x;
        }, x -> x.back(1), StepClock.STATE);
    }

    private static void backOfNoSuchImage() {
        Checks.sentence(28, "IMAGES 0, 1");
        Refused.badNumbers("back(image)", Refused::atTheEnd, StepClock::back, 2, 3);
    }

    private static void backIsBadAheadOfState() {
        Checks.sentence(28, "the MINUTE. BAD; STATE: none was kept.");
        Refused.badNumbers("back(image) of a new object", StepClock::new, StepClock::back, 2, 3);
    }

    private static void backAgainAndAgain() {
        Checks.sentence(28, "All of that becomes as an IMAGE has it: the MINUTE");
        StepClock x = Checks.told("person;go 0 90 2;");
        x.go(3);
        x.keep(0);
        for (int i = 0; i < 20; i++) {
            x.go(1 + i);
            x.sits(i & 1);
            x.one(1 + i);
            Checks.due("back(0)", x.back(0), 3);
            Checks.due("now", now(x), "3 6 0 1 0 0 0 1 84 6 ");
        }
        Checks.due("back(0) where it is", x.back(0), 3);
    }

    private static void backFromAndToTheEnd() {
        Checks.sentence(28, "All of that becomes as an IMAGE has it");
        StepClock x = Checks.told("person;go 0 90 2;");
        x.go(239);
        x.keep(0);
        x.go(1);
        x.keep(1);
        Checks.due("from the end", x.back(0), 239);
        Checks.due("minutes go by again", x.go(1), 0);
        Checks.due("now(0)", x.now(0), 240);
        x.anew();
        Checks.due("to the end", x.back(1), 240);
        Checks.due("go(1)", x.go(1), StepClock.STATE);
        Checks.due("one(1)", x.one(1), StepClock.STATE);
    }

    private static void backBehindAnew() {
        Checks.sentence(28, "STATE: none was kept");
        StepClock x = Checks.told("person;go 0 90 2;");
        x.go(2);
        x.keep(0);
        x.anew();
        Checks.due("it was kept", x.back(0), 2);
        Checks.due("now", now(x), "2 4 0 1 0 0 0 1 86 4 ");
    }

    // ---- promise 29

    private static void countAtFirst() {
        Checks.sentence(29, "0 PEOPLE, 1 MARCHES, 2 WORKS, 3 DAYS of THE STAIR, 4 bytes of THE TEXT, 5 K. BAD.");
        int[] want = {0, 0, 0, 0, 0, 90};
        StepClock x = new StepClock();
        for (int what = 0; what < want.length; what++) {
            Checks.due("count(" + what + ")", x.count(what), want[what]);
        }
    }

    private static void countOfTheMost() {
        Checks.sentence(29, "0 PEOPLE, 1 MARCHES, 2 WORKS, 3 DAYS of THE STAIR, 4 bytes of THE TEXT, 5 K");
        StepClock x = Checks.told("clock 999;" + "person;".repeat(6) + "march 0 1 1;".repeat(4) + "work fire 1 1;".repeat(6));
        for (int d = 0; d < 20; d++) {
            x.stair(d);
        }
        Checks.type(x, " ".repeat(400));
        int[] want = {6, 4, 6, 20, 400, 999};
        for (int what = 0; what < want.length; what++) {
            Checks.due("count(" + what + ")", x.count(what), want[what]);
        }
    }

    private static void countOtherWhat() {
        Checks.sentence(29, "5 K. BAD.");
        Refused.badNumbers("count(what)", Refused::busy, StepClock::count, 6, 7);
    }

    // ---- promise 30

    private static void traceAtFirst() {
        Checks.sentence(30, "THE TRACE (0 at first");
        StepClock x = Checks.told("person;");
        Checks.due("trace()", x.trace(), 0);
        x.go(240);
        Checks.due("trace()", x.trace(), 0);
    }

    private static void traceOfEachKind() {
        Checks.sentence(30, "\"up\" is what the KIND above does, asked once");
        for (int kind = 0; kind < 6; kind++) {
            StepClock x = atMinute65();
            x.mark(kind, 0);
            Checks.due("trace() behind mark(" + kind + ", 0)", x.trace(), TRACES[kind]);
            x.mark(kind, 1);
            Checks.due("trace() behind mark(" + kind + ", 1)", x.trace(), 2L * TRACES[kind]);
        }
    }

    private static void traceAsOftenAsABodyIsAsked() {
        Checks.sentence(30, "as often as mark() asks that body");
        int[][] bodies = {{1}, {10, 1}, {100, 1}, {1000, 10, 1}, {10000, 100, 1}, {100000, 1}};
        StepClock x = atMinute65();
        for (int[] asked : bodies) {
            long before = x.trace();
            x.mark(java.util.Arrays.asList(bodies).indexOf(asked), 0);
            Checks.due("what came to the trace", x.trace() - before, java.util.Arrays.stream(asked).sum());
        }
    }

    private static void traceOfAllCallsEver() {
        Checks.sentence(30, "of all calls ever, together");
        StepClock x = atMinute65();
        long want = 0;
        for (int round = 0; round < 12; round++) {
            x.mark(round % 6, round % 2);
            want += TRACES[round % 6];
            Checks.due("trace()", x.trace(), want);
        }
        x.keep(0);
        x.mark(0, 0);
        x.back(0);
        Checks.due("behind back()", x.trace(), want + 1);
        x.anew();
        Checks.due("behind anew()", x.trace(), want + 1);
        x.day();
        Checks.due("behind day()", x.trace(), want + 1);
        x.clear();
        Checks.due("behind clear()", x.trace(), want + 1);
        Checks.due("asking it changes nothing", x.trace(), want + 1);
    }

    private static void traceOfRefusedCalls() {
        Checks.sentence(30, "Refused, and nothing changes");
        StepClock x = atMinute65();
        x.mark(6, 0);
        x.mark(-1, 0);
        for (int kind = 0; kind < 6; kind++) {
            x.mark(kind, 2);
            x.mark(kind, -1);
        }
        Checks.due("trace()", x.trace(), 0);
    }

    private static void traceOfAllTheCallsThatThereMayBe() {
        Checks.sentence(30, "An object is used for at most 512 calls");
        StepClock x = new StepClock();
        x.type(0x706572736f6e3bL, 7);
        x.day();
        for (int i = 0; i < 509; i++) {
            x.mark(5, 0);
        }
        Checks.due("the 512th call", x.trace(), 509L * 100001);
    }
}
