import java.lang.reflect.Constructor;
import java.lang.reflect.Field;
import java.lang.reflect.Method;
import java.lang.reflect.Modifier;
import java.util.Arrays;
import java.util.Set;
import java.util.TreeSet;

/** The public face: what the document tells, and nothing else that others may see. */
public final class FaceTest {
    private static final String[] FACE = {
        "int type(long,int)", "int clear()", "int day()", "int way(int,int,int)", "int march(int,int)",
        "int work(int,int)", "int go(int)", "int sits(int)", "int one(int)", "int now(int)", "int person(int,int)",
        "int anew()", "int comes(int,int)", "int steps(int)", "int hangs(int)", "int least(int,int)",
        "int ends(int,int)", "int oneDay(int)", "int wages(int,int,int,int,int,int)", "int even(int,int)",
        "int strike(int,int,int)", "int undone(int,int,int)", "int stair(int)", "int worn(int,int,int)",
        "int mark(int,int)", "int keep(int)", "int back(int)", "int count(int)", "long trace()",
    };

    public static void main(String[] args) throws Exception {
        constants();
        methods();
        membersAndConstructors();
        Checks.end("FaceTest");
    }

    private static void constants() {
        Checks.due("BAD", StepClock.BAD, -1);
        Checks.due("STATE", StepClock.STATE, -2);
        Checks.due("FULL", StepClock.FULL, -3);
        Checks.due("NONE", StepClock.NONE, -9);
        Checks.due("NO", StepClock.NO, -1000000);
    }

    private static void methods() {
        Set<String> seen = new TreeSet<>();
        for (Method method : StepClock.class.getDeclaredMethods()) {
            if (!Modifier.isPrivate(method.getModifiers())) {
                StringBuilder told = new StringBuilder();
                told.append(method.getReturnType()).append(' ').append(method.getName()).append('(');
                Class<?>[] types = method.getParameterTypes();
                for (int i = 0; i < types.length; i++) {
                    told.append(i == 0 ? "" : ",").append(types[i]);
                }
                seen.add(told.append(')').toString());
            }
        }
        Set<String> due = new TreeSet<>(Arrays.asList(FACE));
        Checks.due("methods " + seen, seen.equals(due) ? 1 : 0, 1);
    }

    private static void membersAndConstructors() {
        Set<String> seen = new TreeSet<>();
        for (Field field : StepClock.class.getDeclaredFields()) {
            if (!Modifier.isPrivate(field.getModifiers())) {
                seen.add(field.getName());
            }
        }
        Checks.due("fields " + seen, seen.equals(Set.of("BAD", "STATE", "FULL", "NONE", "NO")) ? 1 : 0, 1);
        Constructor<?>[] all = StepClock.class.getDeclaredConstructors();
        Checks.due("constructors", all.length, 1);
        Checks.due("a public one without arguments",
                Modifier.isPublic(all[0].getModifiers()) && all[0].getParameterCount() == 0 ? 1 : 0, 1);
        int modifiers = StepClock.class.getModifiers();
        Checks.due("public and final", Modifier.isPublic(modifiers) && Modifier.isFinal(modifiers) ? 1 : 0, 1);
        for (Class<?> inside : StepClock.class.getDeclaredClasses()) {
            Checks.due(inside + " is static", Modifier.isStatic(inside.getModifiers()) ? 1 : 0, 1);
            Checks.due(inside + " is public", Modifier.isPublic(inside.getModifiers()) ? 1 : 0, 0);
        }
    }
}
