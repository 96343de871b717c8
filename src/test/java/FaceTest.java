import java.io.IOException;
import java.lang.reflect.Constructor;
import java.lang.reflect.Field;
import java.lang.reflect.Method;
import java.lang.reflect.Modifier;
import java.nio.file.Files;
import java.nio.file.Path;
import java.util.Set;
import java.util.TreeSet;
import java.util.regex.Pattern;

/** The public face is the document's and no more, and the file keeps to the plain rules of LANGUAGE.md. */
public final class FaceTest {
    private static final Set<String> METHODS = Set.of("boolean heap(int,int)", "boolean lay(int,int,int)",
            "boolean rules(int,int,int,int,int)", "void seed(int)", "int feed(int,int,int,int,int)", "int end(int)",
            "int winds()", "int fault(int)", "int days(int)", "int storm(int)", "int cell(int,int)",
            "int work(int,int,int,int)", "int drop()", "int best(int,int)", "int bestSet(int,int)", "void mark()",
            "int flight(int,int,int)", "int fits(int)", "int about(int)");

    public static void main(String[] args) throws IOException {
        Checks.mustEnd();
        face();
        nested();
        text();
        Checks.close("FaceTest");
    }

    private static void face() {
        Checks.due("the class is public and final", true,
                Modifier.isPublic(DuneBench.class.getModifiers()) && Modifier.isFinal(DuneBench.class.getModifiers()));
        Set<String> found = new TreeSet<>();
        Set<String> names = new TreeSet<>();
        for (Method m : DuneBench.class.getDeclaredMethods()) {
            if (!Modifier.isPrivate(m.getModifiers())) {
                found.add(signature(m));
                names.add(m.getName());
            }
        }
        Checks.due("methods " + found, true, found.equals(METHODS));
        for (Method m : DuneBench.class.getDeclaredMethods()) {
            if (Modifier.isPrivate(m.getModifiers())) {
                Checks.due("private " + m.getName() + " bears a public name", false, names.contains(m.getName()));
            }
        }
        Constructor<?>[] made = DuneBench.class.getDeclaredConstructors();
        Checks.due("constructors", 1, made.length);
        Checks.due("the constructor is public", true, Modifier.isPublic(made[0].getModifiers()));
        for (Field f : DuneBench.class.getDeclaredFields()) {
            boolean isPrivate = Modifier.isPrivate(f.getModifiers());
            Checks.due("field " + f.getName() + " is private or NONE", true, isPrivate || f.getName().equals("NONE"));
        }
        Checks.due("NONE", -1, DuneBench.NONE);
    }

    private static String signature(Method m) {
        StringBuilder s = new StringBuilder(m.getReturnType() + " " + m.getName() + "(");
        for (Class<?> p : m.getParameterTypes()) {
            s.append(s.charAt(s.length() - 1) == '(' ? "" : ",").append(p.getName());
        }
        return s.append(")").toString();
    }

    private static void nested() {
        Class<?>[] nested = DuneBench.class.getDeclaredClasses();
        Checks.due("at most twelve classes", true, nested.length < 12);
        for (Class<?> c : nested) {
            Checks.due(c + " is static", true, Modifier.isStatic(c.getModifiers()));
            Checks.due(c + " is not public", false, Modifier.isPublic(c.getModifiers()));
            int fields = 0;
            for (Field f : c.getDeclaredFields()) {
                fields += Modifier.isStatic(f.getModifiers()) ? 0 : 1;
                Checks.due(c + "." + f.getName() + " is final if static", true,
                        !Modifier.isStatic(f.getModifiers()) || Modifier.isFinal(f.getModifiers()));
            }
            Checks.due(c + " has at most twenty fields", true, fields <= 20);
        }
    }

    private static void text() throws IOException {
        String source = Files.readString(Path.of("src/main/java/DuneBench.java"));
        String code = source.replaceAll("(?s)/\\*.*?\\*/", "").replaceAll("//[^\n]*", "").replaceAll("\"[^\"\n]*\"", "\"\"");
        String[] banned = {"\\bthrow\\b", "\\btry\\b", "\\bcatch\\b", "\\bsynchronized\\b", "\\bassert\\b", "->", "::",
            "\\bpackage\\b", "\\bimport\\b", "Exact\\b", "\\bhashCode\\b", "\\btoString\\b", "\\bstatic\\s*\\{", "\\bvar\\b",
            "\"\\s*\\+", "\\+\\s*\""};
        for (String word : banned) {
            Checks.due("the file holds " + word, false, Pattern.compile(word).matcher(code).find());
        }
        for (int i = 0; i < source.length(); i++) {
            if (source.charAt(i) > 126) {
                Checks.due("a sign beyond 126 at " + i, 0, source.charAt(i));
            }
        }
    }
}
