import java.lang.reflect.Constructor;
import java.lang.reflect.Field;
import java.lang.reflect.Method;
import java.lang.reflect.Modifier;
import java.util.Arrays;
import java.util.Set;
import java.util.TreeSet;

/** The face is the document's, with nothing beside it (LANGUAGE.md, rules 1 and 5). */
public final class FaceTest {
    private static final String A = " throws IllegalArgumentException";
    private static final String AS = A + " IllegalStateException";

    private static final String[] FACE = {
        "int fan(int int)" + AS,
        "int lag(int int int)" + A,
        "void plan(int int int int int int)" + AS,
        "void turn(int int int)" + AS,
        "int sense(int int int)" + A,
        "boolean deafen(int int boolean)" + A,
        "boolean pull(int int)" + A,
        "boolean confirm(int)" + A,
        "boolean reset(int)" + A,
        "void wish(int int int)" + A,
        "boolean order(int boolean)" + A,
        "int limit(int)" + A,
        "boolean fail(int int)" + A,
        "boolean mend(int int)" + A,
        "int ticks(int)" + AS,
        "int tube(int int)" + A,
        "int device(int int int)" + A,
        "int load()",
        "int starts()",
        "int broken()",
    };

    public static void main(String[] args) {
        Check check = new Check("FaceTest");
        Set<String> methods = new TreeSet<>();
        Set<String> publicNames = new TreeSet<>();
        Set<String> privateNames = new TreeSet<>();
        for (Method m : TunnelWatch.class.getDeclaredMethods()) {
            if (Modifier.isPrivate(m.getModifiers())) {
                privateNames.add(m.getName());
            } else {
                check.due(m.getName() + " is public", Modifier.isPublic(m.getModifiers()), true);
                publicNames.add(m.getName());
                methods.add(signature(m));
            }
        }
        check.dueText("methods", methods.toString(), new TreeSet<>(Arrays.asList(FACE)).toString());
        privateNames.retainAll(publicNames);
        check.dueText("private methods that bear a public one's name", privateNames.toString(), "[]");
        fields(check);
        constructors(check);
        check.due("public and final", TunnelWatch.class.getModifiers(), Modifier.PUBLIC | Modifier.FINAL);
        for (Class<?> inside : TunnelWatch.class.getDeclaredClasses()) {
            int marks = inside.getModifiers();
            check.due(inside + " is static", Modifier.isStatic(marks), true);
            check.due(inside + " is hidden", Modifier.isPublic(marks) || Modifier.isProtected(marks), false);
        }
        check.due("NONE", TunnelWatch.NONE, -1);
        check.end();
    }

    private static void fields(Check check) {
        for (Field f : TunnelWatch.class.getDeclaredFields()) {
            boolean isNone = f.getName().equals("NONE");
            check.due(f + " is private", Modifier.isPrivate(f.getModifiers()), !isNone);
            if (Modifier.isStatic(f.getModifiers())) {
                check.due(f + " is final", Modifier.isFinal(f.getModifiers()), true);
            }
        }
    }

    private static void constructors(Check check) {
        Constructor<?>[] all = TunnelWatch.class.getDeclaredConstructors();
        check.due("constructors", all.length, 1);
        check.dueText("constructor", all[0].toString(), "public TunnelWatch(int,int,int)");
    }

    private static String signature(Method m) {
        StringBuilder text = new StringBuilder(m.getReturnType() + " " + m.getName() + "(");
        String gap = "";
        for (Class<?> p : m.getParameterTypes()) {
            text.append(gap).append(p);
            gap = " ";
        }
        text.append(")");
        gap = " throws ";
        for (Class<?> e : m.getExceptionTypes()) {
            text.append(gap).append(e.getSimpleName());
            gap = " ";
        }
        return text.toString();
    }
}
