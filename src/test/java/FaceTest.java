import java.lang.reflect.Constructor;
import java.lang.reflect.Field;
import java.lang.reflect.Member;
import java.lang.reflect.Method;
import java.lang.reflect.Modifier;
import java.util.Arrays;
import java.util.TreeSet;

/** The public face: the document's constants, constructor and methods, and no other member that others see. */
public final class FaceTest {
    private static final Due D = new Due("FaceTest");
    private static final String[] FACE = {
        "int court(int, int, int, int)", "int ofJuror(int, int)", "int ofCase(int, int)", "int chalk(int)",
        "int treat(int, boolean)", "int strike(int, boolean)", "int minutes(int)",
        "int sitting(int, int, int, int, int)", "int votes(int, int)", "int most(int)", "int delay(int)",
        "int bribe(int, int, int, int, int)", "int strikes(int)", "int worth(int)", "int reading(int, int)",
        "int back(int)", "int codes(int)", "int kinds(int)", "int treated()", "long odds(int, int)",
        "int sheet(int, int, int)", "int lose(int)", "int put(int, int, int)", "long cell(int, int, int)",
        "int copy(int, int, int, int, int)", "int tell(int)", "int hush(int)", "int as(int, int)", "int trace()",
        "int fault()", "int many(int)"};

    public static void main(String[] args) {
        constants();
        methods();
        othersAreHidden();
        namesAreNotUsedTwice();
        D.end();
    }

    private static void constants() {
        D.due("UNKNOWN", ChildCourt.UNKNOWN, -1);
        D.due("OUTSIDE", ChildCourt.OUTSIDE, -2);
        D.due("STATE", ChildCourt.STATE, -3);
        D.due("FULL", ChildCourt.FULL, -4);
        D.due("NONE", ChildCourt.NONE, -9);
        D.due("LOST", ChildCourt.LOST, Long.MIN_VALUE);
        int seen = 0;
        for (Field f : ChildCourt.class.getDeclaredFields()) {
            seen += isSeen(f) ? 1 : 0;
        }
        D.due("constants that others see", seen, 6);
    }

    private static boolean isSeen(Member m) {
        return !Modifier.isPrivate(m.getModifiers()) && !m.isSynthetic();
    }

    private static void methods() {
        TreeSet<String> want = new TreeSet<>(Arrays.asList(FACE));
        TreeSet<String> got = new TreeSet<>();
        for (Method m : ChildCourt.class.getDeclaredMethods()) {
            if (isSeen(m)) {
                StringBuilder told = new StringBuilder(m.getReturnType().getName());
                told.append(' ').append(m.getName()).append('(');
                for (int p = 0; p < m.getParameterCount(); p++) {
                    told.append(p == 0 ? "" : ", ").append(m.getParameterTypes()[p].getName());
                }
                got.add(told.append(')').toString());
                D.due(told + " is public", Modifier.isPublic(m.getModifiers()) ? 1 : 0, 1);
                D.due(told + " is of an object", Modifier.isStatic(m.getModifiers()) ? 1 : 0, 0);
            }
        }
        D.due("methods " + got, got.equals(want) ? 1 : 0, 1);
    }

    private static void othersAreHidden() {
        D.due("public and final", ChildCourt.class.getModifiers() & (Modifier.PUBLIC | Modifier.FINAL),
            Modifier.PUBLIC | Modifier.FINAL);
        Constructor<?>[] made = ChildCourt.class.getDeclaredConstructors();
        D.due("constructors", made.length, 1);
        D.due("its parameters", made[0].getParameterCount(), 0);
        D.due("it is public", Modifier.isPublic(made[0].getModifiers()) ? 1 : 0, 1);
        for (Class<?> inside : ChildCourt.class.getDeclaredClasses()) {
            D.due(inside + " is static", Modifier.isStatic(inside.getModifiers()) ? 1 : 0, 1);
            D.due(inside + " is not public", inside.getModifiers() & (Modifier.PUBLIC | Modifier.PROTECTED), 0);
        }
        D.due("at most twelve classes", ChildCourt.class.getDeclaredClasses().length <= 11 ? 1 : 0, 1);
    }

    private static void namesAreNotUsedTwice() {
        TreeSet<String> names = new TreeSet<>();
        for (String told : FACE) {
            names.add(told.substring(told.indexOf(' ') + 1, told.indexOf('(')));
        }
        for (Method m : ChildCourt.class.getDeclaredMethods()) {
            D.due("hidden " + m.getName(), !isSeen(m) && names.contains(m.getName()) ? 1 : 0, 0);
        }
        for (Class<?> inside : ChildCourt.class.getDeclaredClasses()) {
            for (Method m : inside.getDeclaredMethods()) {
                D.due(inside + " " + m.getName(), names.contains(m.getName()) ? 1 : 0, 0);
            }
        }
    }
}
