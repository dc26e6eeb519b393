import java.lang.reflect.Constructor;
import java.lang.reflect.Field;
import java.lang.reflect.Method;
import java.lang.reflect.Modifier;
import java.util.Arrays;
import java.util.Set;
import java.util.TreeSet;

/** The class has the document's face and nothing else that can be seen (LANGUAGE.md, rules 1, 5, 11). */
public final class FaceTest {
    private static final String BOTH = " throws IllegalArgumentException IllegalStateException";
    private static final String[] METHODS = {
        "int transaction(int, int, int, int)" + BOTH, "boolean submit(int, int)" + BOTH,
        "boolean begin() throws IllegalStateException", "int deliver(int)" + BOTH,
        "boolean disturb(int, int)" + BOTH, "boolean alter(int, int, long)" + BOTH,
        "int lie(int, int, int, int)" + BOTH, "boolean lieVote(int, int)" + BOTH, "int tick()",
        "boolean crash(int)" + BOTH, "boolean restart(int)" + BOTH, "int node(int, int)", "int log(int, int)",
        "int account(int, int, int)", "int block(int, int)", "int message(int, int, int)", "long root(int)",
        "int about(int)"};

    private FaceTest() {
    }

    public static void main(String[] args) throws ReflectiveOperationException {
        Class<?> face = QuorumChain.class;
        Check.due("the class's modifiers", face.getModifiers(), Modifier.PUBLIC | Modifier.FINAL);
        looksAtMethods(face);
        looksAtFields(face);
        looksAtConstructors(face);
        looksAtClassesInside(face);
        Check.end();
    }

    private static void looksAtMethods(Class<?> face) {
        Set<String> visible = new TreeSet<>();
        Set<String> publicNames = new TreeSet<>();
        Set<String> privateNames = new TreeSet<>();
        for (Method m : face.getDeclaredMethods()) {
            if (Modifier.isPrivate(m.getModifiers())) {
                privateNames.add(m.getName());
            } else {
                Check.due(m.getName() + "'s modifiers", m.getModifiers(), Modifier.PUBLIC);
                visible.add(text(m));
                publicNames.add(m.getName());
            }
        }
        Check.same("the methods", visible, new TreeSet<>(Arrays.asList(METHODS)));
        privateNames.retainAll(publicNames);
        Check.same("private methods with a public one's name", privateNames, new TreeSet<String>());
    }

    private static String text(Method m) {
        StringBuilder s = new StringBuilder(m.getReturnType() + " " + m.getName() + "(");
        for (Class<?> c : m.getParameterTypes()) {
            s.append(s.charAt(s.length() - 1) == '(' ? "" : ", ").append(c);
        }
        s.append(")").append(m.getExceptionTypes().length == 0 ? "" : " throws");
        for (Class<?> c : m.getExceptionTypes()) {
            s.append(" ").append(c.getSimpleName());
        }
        return s.toString();
    }

    private static void looksAtFields(Class<?> face) throws ReflectiveOperationException {
        int visible = 0;
        for (Field f : face.getDeclaredFields()) {
            visible += Modifier.isPrivate(f.getModifiers()) ? 0 : 1;
        }
        Check.due("fields that can be seen", visible, 1);
        Field none = face.getField("NONE");
        Check.due("NONE's modifiers", none.getModifiers(), Modifier.PUBLIC | Modifier.STATIC | Modifier.FINAL);
        Check.due("NONE", none.getInt(null), -1);
    }

    private static void looksAtConstructors(Class<?> face) {
        Constructor<?>[] all = face.getDeclaredConstructors();
        Check.due("constructors", all.length, 1);
        Check.due("the constructor's modifiers", all[0].getModifiers(), Modifier.PUBLIC);
        Check.same("its parameters", Arrays.toString(all[0].getParameterTypes()), "[int]");
    }

    private static void looksAtClassesInside(Class<?> face) {
        Class<?>[] inside = face.getDeclaredClasses();
        Check.holds("at most twelve classes", inside.length + 1 <= 12);
        looksAtLimits(face);
        for (Class<?> c : inside) {
            int m = c.getModifiers();
            Check.holds(c + " is static", Modifier.isStatic(m));
            Check.holds(c + " is not public or protected", !Modifier.isPublic(m) && !Modifier.isProtected(m));
            looksAtLimits(c);
        }
    }

    private static void looksAtLimits(Class<?> c) {
        int fields = 0;
        for (Field f : c.getDeclaredFields()) {
            boolean isStatic = Modifier.isStatic(f.getModifiers());
            fields += isStatic ? 0 : 1;
            Check.holds(f + " is final if it is static", !isStatic || Modifier.isFinal(f.getModifiers()));
        }
        Check.holds(c + " has at most twenty fields", fields <= 20);
        for (Method m : c.getDeclaredMethods()) {
            Check.holds(m + " takes at most seven parameters", m.getParameterCount() <= 7);
        }
    }
}
