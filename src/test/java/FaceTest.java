import java.lang.reflect.Member;
import java.lang.reflect.Method;
import java.lang.reflect.Modifier;
import java.util.ArrayList;
import java.util.Arrays;
import java.util.List;
import java.util.TreeSet;

/** The public face: just what the document's block of Java shows, and what ../shared/LANGUAGE.md asks of the face. */
public final class FaceTest extends Checks {
    private static String told(Class<?> type) { return type.getSimpleName(); }

    /** A method as the document writes it, without the names of what it takes. */
    private static String told(Method m) {
        StringBuilder s = new StringBuilder(told(m.getReturnType())).append(' ').append(m.getName()).append('(');
        for (Class<?> p : m.getParameterTypes()) s.append(told(p)).append(' ');
        s.append(')');
        for (Class<?> e : m.getExceptionTypes()) s.append(' ').append(told(e));
        return s.toString();
    }

    /** The document's block, written out here so that the test needs no file. */
    private static final String[] FACE = {
        "int feed(int int int int int )", "boolean wall(int int int )", "boolean set(int int )", "int draw(int )", "int fault(int )",
        "int look(int int ) IndexOutOfBoundsException NoSuchElementException", "int steps(int int int )", "int place(int int int )",
        "int grain(int int )", "int pull(int int int )", "int reach()", "int sag(int )", "int parts(int int )", "int skips(int )",
        "int ticks(int )", "boolean miss(int int int )", "int real(int int )", "int seen(int int int )", "int forget()",
        "int found(int int )", "int mended(int int int )", "int other()", "int clear(int int int int )", "int together(int int )",
        "int joint(int int int )", "int mark(int int int int )", "int offset(int int )", "void begin()", "int tick(int )", "int run(int )",
        "int count(int )"};

    @Says("## The public face")
    private static void methods() {
        TreeSet<String> due = new TreeSet<>(Arrays.asList(FACE)), got = new TreeSet<>();
        for (Method m : CordPens.class.getDeclaredMethods()) if (Modifier.isPublic(m.getModifiers())) got.add(told(m));
        due("methods in the document", due.size(), 31);
        same("methods", String.join("; ", got), String.join("; ", due));
        for (Method m : CordPens.class.getDeclaredMethods()) {
            if (Modifier.isPublic(m.getModifiers())) due(m.getName() + " is static", Modifier.isStatic(m.getModifiers()), false);
        }
    }

    @Says("public final class CordPens")
    private static void theClass() {
        int m = CordPens.class.getModifiers();
        due("public and final", Modifier.isPublic(m) && Modifier.isFinal(m), true);
        same("above it", CordPens.class.getSuperclass().getName(), "java.lang.Object");
        due("interfaces", CordPens.class.getInterfaces().length, 0);
        due("constructors", CordPens.class.getDeclaredConstructors().length, 1);
        due("public ones without arguments", CordPens.class.getConstructors()[0].getParameterCount(), 0);
    }

    @Says("public static final int NONE = -1;")
    private static void theConstant() {
        due("NONE", CordPens.NONE, -1);
        same("public fields", Arrays.stream(CordPens.class.getFields()).map(Member::getName).toList().toString(), "[NONE]");
    }

    /** Rule 1 of LANGUAGE.md. */
    @Says("no other public, protected or package-visible member, but for the classes inside it")
    private static void noOtherMember() {
        List<Member> all = new ArrayList<>(List.of(CordPens.class.getDeclaredFields()));
        all.addAll(List.of(CordPens.class.getDeclaredMethods()));
        TreeSet<String> face = new TreeSet<>();
        for (Method m : CordPens.class.getDeclaredMethods()) if (Modifier.isPublic(m.getModifiers())) face.add(m.getName());
        for (Member m : all) {
            if (m.isSynthetic()) continue;
            due(m.getName() + " is private or public", Modifier.isPrivate(m.getModifiers()) || Modifier.isPublic(m.getModifiers()), true);
            if (m instanceof Method && Modifier.isPrivate(m.getModifiers())) due(m.getName() + " bears the name of a public one", face.contains(m.getName()), false);
        }
        for (Class<?> c : CordPens.class.getDeclaredClasses()) {
            due(c.getSimpleName() + " is static and not public", Modifier.isStatic(c.getModifiers()) && !Modifier.isPublic(c.getModifiers()), true);
            for (Method m : c.getDeclaredMethods()) {
                if (Modifier.isPrivate(m.getModifiers()) && !m.isSynthetic()) due(c.getSimpleName() + "." + m.getName() + " bears the name of a public one", face.contains(m.getName()), false);
            }
        }
    }

    public static void main(String[] args) { runAll(FaceTest.class); }
}
