import java.util.function.Supplier;
import java.util.function.ToIntFunction;

/** Calls that are refused: what they answer, and that nothing changes. */
final class Refused {
    static final int[] FAR = {
        -1, Integer.MIN_VALUE, Integer.MAX_VALUE, Integer.MIN_VALUE + 1, 1 << 28, 1 << 29, 1 << 30, -(1 << 30), 1431655766,
    };

    private Refused() {
    }

    /** Asks a new object, and then all that can be seen of it: it must be as if it had not been asked. */
    static void due(String name, Supplier<StepClock> made, ToIntFunction<StepClock> call, int want) {
        StepClock asked = made.get();
        Checks.due(name, call.applyAsInt(asked), want);
        Checks.due(name + " changes nothing", everythingOf(asked), everythingOf(made.get()));
    }

    /** Numbers that may not stand in a call: those told, and many that are far away. */
    static void badNumbers(String name, Supplier<StepClock> made, NumberCall call, int... beside) {
        for (int no : beside) {
            due(name + " of " + no, made, x -> call.on(x, no), StepClock.BAD);
        }
        for (int no : FAR) {
            due(name + " of " + no, made, x -> call.on(x, no), StepClock.BAD);
        }
    }

    /** A call that has something of everything: ways on and ahead, a text half told, a stair, one image. */
    static StepClock busy() {
        StepClock x = Checks.told("clock 10;person;go 0 30 7;wait 4 9 2;person;wait 1 5 5;march 2 3 4;"
                + "work hours 20 3;work fire 9 2;");
        x.stair(3);
        x.stair(700);
        x.stair(3);
        x.go(2);
        x.keep(0);
        x.sits(2);
        x.one(5);
        x.go(1);
        x.mark(3, 0);
        Checks.type(x, "clock 20;person;go 1 1");
        return x;
    }

    static StepClock atTheEnd() {
        StepClock x = busy();
        x.go(100);
        x.keep(1);
        x.go(240);
        return x;
    }

    /** All that can be seen of an object; behind this it is another one. */
    private static String everythingOf(StepClock x) {
        StringBuilder all = new StringBuilder();
        tellDay(x, all);
        tellNow(x, all);
        all.append("trace ").append(x.trace()).append(" worn");
        for (int what = 0; what < 3; what++) {
            all.append(' ').append(x.worn(3, 0, what)).append(' ').append(x.worn(700, 5, what));
        }
        for (int image = 0; image < 2; image++) {
            all.append(" back ").append(x.back(image));
            tellNow(x, all);
        }
        all.append("go ").append(x.go(7));
        tellNow(x, all);
        int day = x.day();
        all.append("day ").append(day);
        if (day >= 0) {
            tellDay(x, all);
        } else {
            Checks.type(x, " 1;");
            all.append(" mended ").append(x.day());
            tellDay(x, all);
        }
        return all.toString();
    }

    private static void tellDay(StepClock x, StringBuilder all) {
        all.append(" count");
        for (int what = 0; what < 6; what++) {
            all.append(' ').append(x.count(what));
        }
        for (int p = 0; p < x.count(0); p++) {
            for (int k = 0; x.way(p, k, 0) >= 0; k++) {
                all.append(" way ").append(x.way(p, k, 0)).append(' ').append(x.way(p, k, 1)).append(' ')
                        .append(x.way(p, k, 2)).append(' ').append(x.way(p, k, 3));
            }
        }
        for (int m = 0; m < x.count(1); m++) {
            all.append(" march ").append(x.march(m, 0)).append(' ').append(x.march(m, 1)).append(' ').append(x.march(m, 2));
        }
        for (int w = 0; w < x.count(2); w++) {
            all.append(" work ").append(x.work(w, 0)).append(' ').append(x.work(w, 1)).append(' ').append(x.work(w, 2));
        }
        all.append(" steps ").append(x.steps(3)).append(' ').append(x.steps(240)).append(" hangs ").append(x.hangs(0));
    }

    private static void tellNow(StepClock x, StringBuilder all) {
        all.append(" now");
        for (int what = 0; what < 6; what++) {
            all.append(' ').append(x.now(what));
        }
        all.append(" people");
        for (int p = 0; p < x.count(0); p++) {
            for (int what = 0; what < 4; what++) {
                all.append(' ').append(x.person(p, what));
            }
        }
        all.append(' ');
    }

    /** A call with the one number that is tried. */
    interface NumberCall {
        int on(StepClock x, int number);
    }
}
