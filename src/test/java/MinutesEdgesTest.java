/** Promises 8 to 13: each sentence of the document that names an edge has a test of its own here. */
public final class MinutesEdgesTest {
    public static void main(String[] args) {
        goOneToTwoHundredAndForty();
        goNoOtherNumber();
        goAsManyAsAreLeft();
        goAtTheEnd();
        goIsBadAheadOfState();
        goTellsStepsThatWereTaken();
        goByTheHourAsTheMinuteBegins();
        setOutOnAGo();
        setOutOnAWait();
        setOutOnTheNextWayAlone();
        takePStepsOrWhatIsLeft();
        aWayWithoutStepsLeftIsDone();
        marchesFromMToTheLastOfL();
        marchesBeyondTheEnd();
        severalMarchesAtOnce();
        whoSitsTakesNone();
        whoSitsSetsOutOnNone();

        sitsTellsWhatItWas();
        sitsThoseThatThereAre();
        sitsWithNobodyThere();
        sitsAtTheEnd();

        oneTakesOneToAll();
        oneTakesNoOtherNumber();
        oneAtTheEnd();
        oneIsBadAheadOfState();
        oneTellsTheHourThen();
        oneIsNobodyOfThePeople();
        oneBringsAnHourToThoseWhoWait();

        nowTheMinute();
        nowTheHourRoundedDown();
        nowHowManyAreOnAWay();
        nowWhoSits();
        nowTheEvenHour();
        nowOtherWhat();

        personThatThereIsNot();
        personOtherWhat();
        personOnNoWay();
        personOnAWay();
        personBehindAllWays();

        anewAtFirst();
        anewAtTheEnd();
        anewNobodySits();
        anewNowAlone();
        Checks.end("MinutesEdgesTest", 8, 13);
    }

    private static void person(StepClock x, int p, int done, int on, int left, int taken) {
        int[] want = {done, on, left, taken};
        for (int what = 0; what < 4; what++) {
            Checks.due("person(" + p + ", " + what + ")", x.person(p, what), want[what]);
        }
    }

    // ---- promise 8

    private static void goOneToTwoHundredAndForty() {
        Checks.sentence(8, "n MINUTES go by (1 .. 240; as many as are left)");
        StepClock x = new StepClock();
        Checks.due("go(1)", x.go(1), 0);
        Checks.due("now(0)", x.now(0), 1);
        StepClock y = Checks.told("march 0 240 1;");
        Checks.due("go(240)", y.go(240), 240);
        Checks.due("now(0)", y.now(0), 240);
        StepClock z = Checks.told("march 0 240 1;");
        Checks.due("go(239)", z.go(239), 239);
        Checks.due("now(0)", z.now(0), 239);
    }

    private static void goNoOtherNumber() {
        Checks.sentence(8, "STEPS that were taken. BAD; STATE: it is MINUTE 240.");
        Refused.badNumbers("go(n)", Refused::busy, StepClock::go, 0, 241);
        Refused.badNumbers("go(n) of a new object", StepClock::new, StepClock::go, 0, 241);
    }

    private static void goAsManyAsAreLeft() {
        Checks.sentence(8, "as many as are left");
        for (int ahead : new int[] {1, 2, 120, 238, 239}) {
            StepClock x = Checks.told("march 0 240 1;");
            x.go(ahead);
            Checks.due("go(240) behind " + ahead, x.go(240), 240 - ahead);
            Checks.due("now(0)", x.now(0), 240);
        }
        StepClock y = Checks.told("march 0 240 1;");
        y.go(238);
        Checks.due("go(2), just what is left", y.go(2), 2);
        Checks.due("now(0)", y.now(0), 240);
    }

    private static void goAtTheEnd() {
        Checks.sentence(8, "STATE: it is MINUTE 240");
        for (int n : new int[] {1, 2, 239, 240}) {
            Refused.due("go(" + n + ") at the end", Refused::atTheEnd, x -> x.go(n), StepClock.STATE);
        }
    }

    private static void goIsBadAheadOfState() {
        Checks.sentence(8, "the first of these: BAD (a number is not as told, or there is no such thing), STATE (as told), FULL");
        Refused.badNumbers("go(n) at the end", Refused::atTheEnd, StepClock::go, 0, 241);
    }

    private static void goTellsStepsThatWereTaken() {
        Checks.sentence(8, "STEPS that were taken");
        StepClock x = Checks.told("person;go 0 5 5;march 0 1 7;march 3 1 100;");
        x.one(9000);
        Checks.due("people's and a march's, not those of ONE", x.go(2), 12);
        Checks.due("none", x.go(1), 0);
        Checks.due("a march's", x.go(1), 100);
        Checks.due("now(1)", x.now(1), 9112);
    }

    private static void goByTheHourAsTheMinuteBegins() {
        Checks.sentence(8, "by the HOUR as it begins each one who is on no WAY sets out on the next one");
        // Whoever walks is told ahead of and behind those who wait: neither sees the hour in that minute.
        StepClock x = Checks.told("clock 10;person;wait 1 9 9;person;go 0 10 10;person;wait 1 9 9;march 0 1 10;");
        Checks.due("minute 0", x.go(1), 20);
        person(x, 0, 0, 0, 0, 0);
        person(x, 2, 0, 0, 0, 0);
        Checks.due("minute 1", x.go(1), 18);
    }

    private static void setOutOnAGo() {
        Checks.sentence(8, "(GO: m is M at least;");
        for (int m : new int[] {0, 1, 120, 238, 239}) {
            StepClock x = Checks.told("person;go " + m + " 5 5;");
            if (m > 0) {
                Checks.due("not ahead of minute " + m, x.go(m), 0);
            }
            Checks.due("in minute " + m, x.go(1), 5);
        }
        StepClock late = Checks.told("person;go 0 4 1;go 2 5 5;");
        late.go(4);
        Checks.due("m is above M", late.go(1), 5);
    }

    private static void setOutOnAWait() {
        Checks.sentence(8, "WAIT: HOUR is H at least)");
        StepClock x = Checks.told("clock 10;person;wait 2 5 5;");
        x.one(19);
        Checks.due("a step ahead of hour 2", x.go(1), 0);
        x.one(1);
        Checks.due("hour 2", x.go(1), 5);
        StepClock beyond = Checks.told("clock 10;person;wait 2 5 5;");
        beyond.one(35);
        Checks.due("an hour above H", beyond.go(1), 5);
        StepClock last = Checks.told("clock 10;person;wait 99 5 5;");
        last.one(989);
        Checks.due("hour 98", last.go(1), 0);
        last.one(1);
        Checks.due("hour 99", last.go(1), 5);
    }

    private static void setOutOnTheNextWayAlone() {
        Checks.sentence(8, "sets out on the next one, if that may be");
        StepClock x = Checks.told("clock 10;person;go 100 5 5;go 0 3 3;wait 1 2 2;");
        Checks.due("ways behind don't begin ahead", x.go(100), 0);
        Checks.due("minute 100", x.go(1), 5);
        Checks.due("minute 101", x.go(1), 3);
        Checks.due("hour 1 is not there", x.go(5), 0);
        x.one(2);
        Checks.due("now it is", x.go(1), 2);
        person(x, 0, 3, 0, 0, 10);
    }

    private static void takePStepsOrWhatIsLeft() {
        Checks.sentence(8, "takes P STEPS, or what is left of N");
        int[][] rows = {{1, 99, 1, 0}, {98, 99, 98, 0}, {99, 99, 99, 0}, {100, 99, 99, 1}, {198, 99, 99, 99}, {1, 1, 1, 0},
            {999, 99, 99, 99}, {999, 1, 1, 1}};
        for (int[] row : rows) {
            StepClock x = Checks.told("person;go 0 " + row[0] + " " + row[1] + ";");
            Checks.due("N " + row[0] + ", P " + row[1] + ", minute 0", x.go(1), row[2]);
            Checks.due("N " + row[0] + ", P " + row[1] + ", minute 1", x.go(1), row[3]);
        }
        StepClock most = Checks.told("person;go 0 999 99;");
        Checks.due("ten minutes", most.go(10), 990);
        person(most, 0, 0, 1, 9, 990);
        Checks.due("what is left", most.go(1), 9);
        person(most, 0, 1, 0, 0, 999);
    }

    private static void aWayWithoutStepsLeftIsDone() {
        Checks.sentence(8, "a WAY without STEPS left is done (the next one not ahead of the next minute)");
        StepClock x = Checks.told("person;go 0 5 5;go 0 3 3;go 0 9 3;");
        Checks.due("minute 0", x.go(1), 5);
        person(x, 0, 1, 0, 0, 5);
        Checks.due("on a way", x.now(3), 0);
        Checks.due("minute 1", x.go(1), 3);
        person(x, 0, 2, 0, 0, 8);
        Checks.due("minute 2", x.go(1), 3);
        person(x, 0, 2, 1, 6, 11);
        StepClock rest = Checks.told("person;go 0 6 5;go 0 9 9;");
        Checks.due("minutes 0, 1: one step is left of the first way", rest.go(2), 6);
        Checks.due("minute 2", rest.go(1), 9);
    }

    private static void marchesFromMToTheLastOfL() {
        Checks.sentence(8, "each MARCH from M to M and L less 1 takes P");
        int[][] rows = {{0, 1}, {0, 240}, {1, 1}, {5, 3}, {238, 2}, {239, 1}, {238, 1}};
        for (int[] row : rows) {
            StepClock x = Checks.told("march " + row[0] + " " + row[1] + " 7;");
            for (int m = 0; m < 240; m++) {
                int want = m >= row[0] && m < row[0] + row[1] ? 7 : 0;
                Checks.due("march of minute " + row[0] + ", minutes " + row[1] + ", in minute " + m, x.go(1), want);
            }
        }
    }

    private static void marchesBeyondTheEnd() {
        Checks.sentence(8, "MINUTE 0 at first, 240 at most");
        StepClock x = Checks.told("march 239 240 999;");
        Checks.due("go(239)", x.go(239), 0);
        Checks.due("go(240)", x.go(240), 999);
        Checks.due("now(0)", x.now(0), 240);
        Checks.due("now(1)", x.now(1), 999);
    }

    private static void severalMarchesAtOnce() {
        Checks.sentence(8, "each MARCH from M to M and L less 1 takes P");
        StepClock x = Checks.told("march 0 240 999;".repeat(4));
        Checks.due("a minute of all that there may be", x.go(1), 3996);
        Checks.due("all of them", x.go(240), 239 * 3996);
        Checks.due("now(1)", x.now(1), 240 * 3996);
    }

    private static void whoSitsTakesNone() {
        Checks.sentence(8, "Those who SIT take none and set out on none.");
        StepClock x = Checks.told("person;go 0 10 2;march 0 240 1;");
        x.go(1);
        x.sits(1);
        Checks.due("a march goes on", x.go(3), 3);
        person(x, 0, 0, 1, 8, 2);
        x.sits(0);
        Checks.due("on again with what was left", x.go(1), 3);
        person(x, 0, 0, 1, 6, 4);
    }

    private static void whoSitsSetsOutOnNone() {
        Checks.sentence(8, "Those who SIT take none and set out on none.");
        StepClock x = Checks.told("clock 10;person;go 0 10 2;person;wait 1 8 4;person;go 0 3 3;");
        x.sits(3);
        x.one(20);
        Checks.due("only the third", x.go(2), 3);
        person(x, 0, 0, 0, 0, 0);
        person(x, 1, 0, 0, 0, 0);
        Checks.due("now(3)", x.now(3), 0);
        x.sits(0);
        Checks.due("both set out when they may", x.go(1), 6);
        Checks.due("now(3)", x.now(3), 2);
    }

    // ---- promise 9

    private static void sitsTellsWhatItWas() {
        Checks.sentence(9, "left out): what it was");
        StepClock x = Checks.told("person;".repeat(6));
        int was = 0;
        for (int set = 0; set < 64; set++) {
            Checks.due("sits(" + set + ")", x.sits(set), was);
            Checks.due("now(4)", x.now(4), set);
            was = set;
        }
    }

    private static void sitsThoseThatThereAre() {
        Checks.sentence(9, "(bits; those that there are not are left out)");
        for (int people = 0; people <= 6; people++) {
            int all = (1 << people) - 1;
            StepClock x = Checks.told("person;".repeat(people));
            for (int set : new int[] {-1, 63, 64, ~all, 1 << people, Integer.MIN_VALUE, Integer.MAX_VALUE, 1 << 30 | 1}) {
                x.sits(set);
                Checks.due(people + " people, sits(" + set + "): now(4)", x.now(4), set & all);
                Checks.due("sits(0)", x.sits(0), set & all);
            }
        }
    }

    private static void sitsWithNobodyThere() {
        Checks.sentence(9, "SITTING becomes a set");
        StepClock x = new StepClock();
        Checks.due("sits(-1)", x.sits(-1), 0);
        Checks.due("sits(1)", x.sits(1), 0);
        Checks.due("now(4)", x.now(4), 0);
    }

    private static void sitsAtTheEnd() {
        Checks.sentence(9, "SITTING becomes a set");
        StepClock x = Refused.atTheEnd();
        Checks.due("sits(3)", x.sits(3), 2);
        Checks.due("now(4)", x.now(4), 3);
        Checks.due("now(0)", x.now(0), 240);
    }

    // ---- promise 10

    private static void oneTakesOneToAll() {
        Checks.sentence(10, "ONE more takes n STEPS (1 .. 9999) at once, now");
        for (int n : new int[] {1, 2, 9998, 9999}) {
            StepClock x = new StepClock();
            Checks.due("one(" + n + ")", x.one(n), n / 90);
            Checks.due("now(1)", x.now(1), n);
            Checks.due("one(" + n + ") again", x.one(n), 2 * n / 90);
            Checks.due("now(1)", x.now(1), 2 * n);
            Checks.due("now(0)", x.now(0), 0);
        }
    }

    private static void oneTakesNoOtherNumber() {
        Checks.sentence(10, "HOUR then. BAD; STATE: it is MINUTE 240.");
        Refused.badNumbers("one(n)", Refused::busy, StepClock::one, 0, 10000);
        Refused.badNumbers("one(n) of a new object", StepClock::new, StepClock::one, 0, 10000);
    }

    private static void oneAtTheEnd() {
        Checks.sentence(10, "STATE: it is MINUTE 240");
        for (int n : new int[] {1, 9999}) {
            Refused.due("one(" + n + ") at the end", Refused::atTheEnd, x -> x.one(n), StepClock.STATE);
        }
        StepClock x = new StepClock();
        x.go(239);
        Checks.due("not yet the end", x.one(90), 1);
    }

    private static void oneIsBadAheadOfState() {
        Checks.sentence(10, "the first of these: BAD (a number is not as told, or there is no such thing), STATE");
        Refused.badNumbers("one(n) at the end", Refused::atTheEnd, StepClock::one, 0, 10000);
    }

    private static void oneTellsTheHourThen() {
        Checks.sentence(10, "HOUR then");
        StepClock x = Checks.told("clock 10;march 0 1 5;");
        Checks.due("9 steps", x.one(9), 0);
        Checks.due("the hour is there at once", x.one(1), 1);
        x.go(1);
        Checks.due("19", x.one(4), 1);
        Checks.due("20", x.one(1), 2);
        Checks.due("many hours at once", x.one(9999), 1001);
    }

    private static void oneIsNobodyOfThePeople() {
        Checks.sentence(10, "ONE more may be told: so many STEPS at once, now.");
        StepClock x = Checks.told("clock 10;person;go 0 9 2;person;");
        x.go(1);
        x.one(100);
        person(x, 0, 0, 1, 7, 2);
        person(x, 1, 0, 0, 0, 0);
        Checks.due("now(3)", x.now(3), 1);
        Checks.due("as told, without it: steps(1)", x.steps(1), 2);
        Checks.due("comes(1, 0)", x.comes(1, 0), StepClock.NONE);
    }

    private static void oneBringsAnHourToThoseWhoWait() {
        Checks.sentence(10, "at once, now");
        StepClock x = Checks.told("clock 10;person;wait 1 7 7;");
        Checks.due("go(3)", x.go(3), 0);
        Checks.due("one(10)", x.one(10), 1);
        Checks.due("go(1)", x.go(1), 7);
    }

    // ---- promise 11

    private static void nowTheMinute() {
        Checks.sentence(11, "0 MINUTE, 1 STEPS, 2 HOUR");
        for (int what = 0; what < 2; what++) {
            StepClock x = Checks.told("march 0 240 3;");
            for (int m = 0; m <= 240; m++) {
                Checks.due("now(" + what + ") behind " + m, x.now(what), what == 0 ? m : 3 * m);
                x.go(1);
            }
        }
    }

    private static void nowTheHourRoundedDown() {
        Checks.sentence(11, "HOUR: STEPS by K, rounded down");
        for (int k : new int[] {10, 11, 90, 998, 999}) {
            StepClock x = Checks.told("clock " + k + ";");
            x.one(k - 1);
            Checks.due("a step ahead of hour 1 of K " + k, x.now(2), 0);
            x.one(1);
            Checks.due("hour 1 of K " + k, x.now(2), 1);
            x.one(k - 1);
            Checks.due("a step ahead of hour 2 of K " + k, x.now(2), 1);
            x.one(1);
            Checks.due("hour 2 of K " + k, x.now(2), 2);
        }
    }

    private static void nowHowManyAreOnAWay() {
        Checks.sentence(11, "3 how many are on a WAY");
        StepClock none = Checks.told("person;go 1 2 1;person;");
        Checks.due("none is", none.now(3), 0);
        none.go(1);
        Checks.due("not ahead of its minute", none.now(3), 0);
        none.go(1);
        Checks.due("one is", none.now(3), 1);
        none.go(1);
        Checks.due("it is done", none.now(3), 0);
        StepClock all = Checks.told("person;go 0 9 1;".repeat(6));
        all.go(1);
        Checks.due("all six are", all.now(3), 6);
        all.sits(63);
        Checks.due("who sits on a way is on it", all.now(3), 6);
    }

    private static void nowWhoSits() {
        Checks.sentence(11, "4 who sits");
        StepClock x = Checks.told("person;".repeat(6));
        Checks.due("nobody", x.now(4), 0);
        x.sits(32);
        Checks.due("the last", x.now(4), 32);
        x.sits(63);
        Checks.due("all", x.now(4), 63);
        x.go(240);
        Checks.due("at the end, too", x.now(4), 63);
    }

    private static void nowTheEvenHour() {
        Checks.sentence(11, "5 the even HOUR. BAD.");
        StepClock x = new StepClock();
        for (int m = 0; m <= 240; m++) {
            Checks.due("now(5) at " + m, x.now(5), m < 60 ? 0 : m < 120 ? 1 : m < 180 ? 2 : m < 240 ? 3 : 4);
            x.go(1);
        }
    }

    private static void nowOtherWhat() {
        Checks.sentence(11, "5 the even HOUR. BAD.");
        Refused.badNumbers("now(what)", Refused::busy, StepClock::now, 6, 7);
        Refused.badNumbers("now(what) at the end", Refused::atTheEnd, StepClock::now, 6);
    }

    // ---- promise 12

    private static void personThatThereIsNot() {
        Checks.sentence(12, "Of a person NOW");
        Refused.badNumbers("person(p, 0)", Refused::busy, (x, p) -> x.person(p, 0), 2, 3, 5, 6);
        Refused.badNumbers("person(p, 3) of a new object", StepClock::new, (x, p) -> x.person(p, 3), 0, 1);
        StepClock six = Checks.told("person;".repeat(6));
        Checks.due("person(5, 0)", six.person(5, 0), 0);
        Checks.due("person(6, 0)", six.person(6, 0), StepClock.BAD);
    }

    private static void personOtherWhat() {
        Checks.sentence(12, "2 what is left of that (0), 3 STEPS it took. BAD.");
        Refused.badNumbers("person(0, what)", Refused::busy, (x, what) -> x.person(0, what), 4, 5);
    }

    private static void personOnNoWay() {
        Checks.sentence(12, "1 whether it is on one, 2 what is left of that (0)");
        StepClock x = Checks.told("person;go 5 9 3;person;");
        person(x, 0, 0, 0, 0, 0);
        person(x, 1, 0, 0, 0, 0);
        x.go(5);
        person(x, 0, 0, 0, 0, 0);
        x.go(1);
        person(x, 0, 0, 1, 6, 3);
        person(x, 1, 0, 0, 0, 0);
    }

    private static void personOnAWay() {
        Checks.sentence(12, "1 whether it is on one, 2 what is left of that (0)");
        StepClock x = Checks.told("person;go 0 3 1;");
        x.go(1);
        person(x, 0, 0, 1, 2, 1);
        x.go(1);
        person(x, 0, 0, 1, 1, 2);
        x.sits(1);
        x.go(5);
        person(x, 0, 0, 1, 1, 2);
        x.sits(0);
        x.go(1);
        person(x, 0, 1, 0, 0, 3);
    }

    private static void personBehindAllWays() {
        Checks.sentence(12, "0 how many WAYS are done");
        StepClock x = Checks.told("person;go 0 1 1;go 0 2 2;go 0 3 3;go 0 4 4;person;" + "go 0 999 99;".repeat(4));
        for (int done = 0; done <= 4; done++) {
            Checks.due("person(0, 0)", x.person(0, 0), done);
            x.go(1);
        }
        x.go(240);
        person(x, 0, 4, 0, 0, 10);
        person(x, 1, 4, 0, 0, 4 * 999);
        Checks.due("now(3)", x.now(3), 0);
    }

    // ---- promise 13

    private static void anewAtFirst() {
        Checks.sentence(13, "NOW is as at first, nobody sits: the MINUTE it was");
        StepClock x = new StepClock();
        Checks.due("anew()", x.anew(), 0);
        StepClock y = Checks.told("clock 10;person;go 0 9 2;march 0 9 3;");
        y.one(7);
        Checks.due("anew() in minute 0", y.anew(), 0);
        Checks.due("STEPS", y.now(1), 0);
        y.go(2);
        Checks.due("anew()", y.anew(), 2);
        for (int what = 0; what < 6; what++) {
            Checks.due("now(" + what + ")", y.now(what), 0);
        }
        person(y, 0, 0, 0, 0, 0);
        Checks.due("anew() again", y.anew(), 0);
    }

    private static void anewAtTheEnd() {
        Checks.sentence(13, "the MINUTE it was");
        StepClock x = Checks.told("person;go 0 9 2;go 3 4 4;march 0 240 3;");
        int all = x.go(240);
        Checks.due("go(1)", x.go(1), StepClock.STATE);
        Checks.due("anew()", x.anew(), 240);
        Checks.due("go(240) as at first", x.go(240), all);
        Checks.due("all of them", all, 13 + 720);
    }

    private static void anewNobodySits() {
        Checks.sentence(13, "nobody sits");
        StepClock x = Checks.told("person;go 0 9 2;person;go 0 9 3;");
        x.sits(3);
        Checks.due("anew()", x.anew(), 0);
        Checks.due("now(4)", x.now(4), 0);
        Checks.due("go(1)", x.go(1), 5);
    }

    private static void anewNowAlone() {
        Checks.sentence(13, "NOW is as at first");
        StepClock x = Refused.busy();
        int bytes = x.count(4);
        long trace = x.trace();
        Checks.due("anew()", x.anew(), 3);
        int[] counts = {2, 1, 2, 3, bytes, 10};
        for (int what = 0; what < counts.length; what++) {
            Checks.due("count(" + what + ")", x.count(what), counts[what]);
        }
        Checks.due("trace()", x.trace(), trace);
        Checks.due("worn(706, 0, 0)", x.worn(706, 0, 0), 1);
        Checks.due("an image is none of NOW: back(0)", x.back(0), 2);
        Checks.due("back(1)", x.back(1), StepClock.STATE);
    }
}
