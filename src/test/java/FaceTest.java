import java.lang.reflect.Constructor;
import java.lang.reflect.Field;
import java.lang.reflect.Method;
import java.lang.reflect.Modifier;
import java.util.Arrays;
import java.util.TreeSet;

/** The public face: what the document lists, and nothing else that another class could see. */
public final class FaceTest {
    private static final String[] FACE = {
        "boolean write(char)", "int decide()", "int place()", "int polynomials()",
        "int coefficient(int,int)", "int columns()", "int cells(int)", "int sign(int,int,int)",
        "int truth(int,int)", "int holds(int)", "int witness()", "int compare(int,int,int)",
        "int ILL", "int ROOM", "int NONE", "new ()",
    };

    public static void main(String[] args) {
        Checks checks = new Checks("FaceTest");
        checks.due("ILL", PlaneCells.ILL, -1);
        checks.due("ROOM", PlaneCells.ROOM, -2);
        checks.due("NONE", PlaneCells.NONE, 9);
        int modifiers = PlaneCells.class.getModifiers();
        checks.due("public and final", Modifier.isPublic(modifiers) && Modifier.isFinal(modifiers), true);
        TreeSet<String> due = new TreeSet<>(Arrays.asList(FACE));
        TreeSet<String> seen = visible(checks);
        checks.due("visible members " + seen, seen.equals(due), true);
        for (Class<?> inside : PlaneCells.class.getDeclaredClasses()) {
            checks.due(inside.getName() + " is hidden", Modifier.isPublic(inside.getModifiers()), false);
        }
        checks.end();
    }

    private static TreeSet<String> visible(Checks checks) {
        TreeSet<String> seen = new TreeSet<>();
        for (Method m : PlaneCells.class.getDeclaredMethods()) {
            if (!Modifier.isPrivate(m.getModifiers())) {
                checks.due(m + " is public, not static", m.getModifiers(), Modifier.PUBLIC);
                seen.add(m.getReturnType().getName() + " " + m.getName() + types(m.getParameterTypes()));
            }
        }
        for (Field f : PlaneCells.class.getDeclaredFields()) {
            if (!Modifier.isPrivate(f.getModifiers())) {
                checks.due(f + " is a constant", f.getModifiers(), Modifier.PUBLIC | Modifier.STATIC | Modifier.FINAL);
                seen.add(f.getType().getName() + " " + f.getName());
            }
        }
        for (Constructor<?> c : PlaneCells.class.getDeclaredConstructors()) {
            checks.due(c + " is public", Modifier.isPublic(c.getModifiers()), true);
            seen.add("new " + types(c.getParameterTypes()));
        }
        return seen;
    }

    private static String types(Class<?>[] types) {
        StringBuilder all = new StringBuilder("(");
        for (Class<?> type : types) {
            all.append(all.length() > 1 ? "," : "").append(type.getName());
        }
        return all.append(")").toString();
    }
}
