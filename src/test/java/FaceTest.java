import java.io.IOException;
import java.lang.reflect.Member;
import java.lang.reflect.Method;
import java.lang.reflect.Modifier;
import java.nio.file.Files;
import java.nio.file.Path;
import java.util.ArrayList;
import java.util.Arrays;
import java.util.List;
import java.util.TreeSet;

/** The public face: just what the document's block of Java shows, and what ../shared/LANGUAGE.md asks of the face. */
public final class FaceTest extends Checks {
    private static final Path DOC = Path.of("../shared/DOC.md");

    private static String told(Class<?> type) { return type.getSimpleName(); }

    /** A method as the document writes it, without the names of what it takes. */
    private static String told(Method m) {
        StringBuilder s = new StringBuilder(told(m.getReturnType())).append(' ').append(m.getName()).append('(');
        for (Class<?> p : m.getParameterTypes()) s.append(told(p)).append(' ');
        s.append(')');
        for (Class<?> e : m.getExceptionTypes()) s.append(' ').append(told(e));
        return s.toString();
    }

    private static List<String> methodsOfTheDocument() throws IOException {
        List<String> list = new ArrayList<>();
        for (String line : Files.readAllLines(DOC)) {
            String s = line.strip();
            if (!s.startsWith("public ") || !s.endsWith(";") || s.contains("=") || s.startsWith("public CordPens(")) continue;
            String head = s.substring("public ".length(), s.indexOf('('));
            StringBuilder told = new StringBuilder(head).append('(');
            String in = s.substring(s.indexOf('(') + 1, s.indexOf(')'));
            for (String p : in.split(",")) if (!p.isBlank()) told.append(p.strip().split(" ")[0]).append(' ');
            told.append(')');
            String behind = s.substring(s.indexOf(')') + 1, s.length() - 1).replace("throws", "");
            for (String e : behind.split(",")) if (!e.isBlank()) told.append(' ').append(e.strip());
            list.add(told.toString());
        }
        return list;
    }

    @Says("## The public face")
    private static void methods() throws IOException {
        TreeSet<String> due = new TreeSet<>(methodsOfTheDocument()), got = new TreeSet<>();
        for (Method m : CordPens.class.getDeclaredMethods()) if (Modifier.isPublic(m.getModifiers())) got.add(told(m));
        due("methods in the document", due.size(), 31);
        same("methods", String.join("; ", got), String.join("; ", due));
        for (Method m : CordPens.class.getDeclaredMethods()) {
            if (Modifier.isPublic(m.getModifiers())) due(m.getName() + " is static", Modifier.isStatic(m.getModifiers()), false);
        }
    }

    @Says("public final class CordPens")
    private static void theClass() {
        int m = CordPens.class.getModifiers();
        due("public and final", Modifier.isPublic(m) && Modifier.isFinal(m), true);
        same("above it", CordPens.class.getSuperclass().getName(), "java.lang.Object");
        due("interfaces", CordPens.class.getInterfaces().length, 0);
        due("constructors", CordPens.class.getDeclaredConstructors().length, 1);
        due("public ones without arguments", CordPens.class.getConstructors()[0].getParameterCount(), 0);
    }

    @Says("public static final int NONE = -1;")
    private static void theConstant() {
        due("NONE", CordPens.NONE, -1);
        same("public fields", Arrays.stream(CordPens.class.getFields()).map(Member::getName).toList().toString(), "[NONE]");
    }

    /** Rule 1 of LANGUAGE.md. */
    @Says("no other public, protected or package-visible member, but for the classes inside it")
    private static void noOtherMember() {
        List<Member> all = new ArrayList<>(List.of(CordPens.class.getDeclaredFields()));
        all.addAll(List.of(CordPens.class.getDeclaredMethods()));
        TreeSet<String> face = new TreeSet<>();
        for (Method m : CordPens.class.getDeclaredMethods()) if (Modifier.isPublic(m.getModifiers())) face.add(m.getName());
        for (Member m : all) {
            if (m.isSynthetic()) continue;
            due(m.getName() + " is private or public", Modifier.isPrivate(m.getModifiers()) || Modifier.isPublic(m.getModifiers()), true);
            if (m instanceof Method && Modifier.isPrivate(m.getModifiers())) due(m.getName() + " bears the name of a public one", face.contains(m.getName()), false);
        }
        for (Class<?> c : CordPens.class.getDeclaredClasses()) {
            due(c.getSimpleName() + " is static and not public", Modifier.isStatic(c.getModifiers()) && !Modifier.isPublic(c.getModifiers()), true);
            for (Method m : c.getDeclaredMethods()) {
                if (Modifier.isPrivate(m.getModifiers()) && !m.isSynthetic()) due(c.getSimpleName() + "." + m.getName() + " bears the name of a public one", face.contains(m.getName()), false);
            }
        }
    }

    public static void main(String[] args) { runAll(FaceTest.class); }
}
