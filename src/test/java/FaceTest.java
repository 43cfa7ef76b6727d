import java.io.IOException;
import java.lang.reflect.Field;
import java.lang.reflect.Method;
import java.lang.reflect.Modifier;
import java.nio.file.Files;
import java.nio.file.Path;
import java.util.Set;
import java.util.TreeSet;
import java.util.regex.Matcher;
import java.util.regex.Pattern;

/** The face is the document's, and the source keeps to some of LANGUAGE.md that a program can see. */
public final class FaceTest {
    private static final String[] BARRED = {"try {", "catch (", "finally", "->", "::", "synchronized", "assert ",
        "static {", "Exact(", ".toString(", ".hashCode(", "System.out", "Random", "protected "};

    public static void main(String[] args) throws IOException {
        Due due = new Due();
        Path source = Path.of(args[0], "src/main/java/GuestView.java");
        Path document = Path.of(args[1], "DOC.md");
        Set<String> want = promised(Files.readString(document));
        Set<String> got = new TreeSet<>();
        Set<String> names = new TreeSet<>();
        for (Method m : GuestView.class.getDeclaredMethods()) {
            if (!Modifier.isPrivate(m.getModifiers())) {
                got.add(shown(m));
                names.add(m.getName());
            }
        }
        compare(due, got, want);
        for (Method m : GuestView.class.getDeclaredMethods()) {
            boolean clashes = Modifier.isPrivate(m.getModifiers()) && names.contains(m.getName());
            due.is("private " + m.getName() + " bears a public name", clashes, false);
            due.is("parameters of " + m.getName() + " above seven", m.getParameterCount() > 7, false);
        }
        for (Field f : GuestView.class.getDeclaredFields()) {
            boolean shown = !Modifier.isPrivate(f.getModifiers());
            due.is("field " + f.getName() + " is shown", shown, f.getName().equals("NONE"));
        }
        due.is("constructors", GuestView.class.getDeclaredConstructors().length, 1);
        due.is("classes inside, at most twelve with their outer one", GuestView.class.getDeclaredClasses().length < 12, true);
        String text = Files.readString(source);
        for (String bar : BARRED) {
            due.is("the source has '" + bar + "'", text.contains(bar), false);
        }
        due.finish();
    }

    private static void compare(Due due, Set<String> got, Set<String> want) {
        due.is("methods that the document shows", want.size(), 52);
        for (String method : want) {
            due.is("face has " + method, got.contains(method), true);
        }
        for (String method : got) {
            due.is("document has " + method, want.contains(method), true);
        }
    }

    private static Set<String> promised(String document) {
        Set<String> found = new TreeSet<>();
        Matcher m = Pattern.compile("    public (int|boolean|void) (\\w+)\\(([^)]*)\\)( throws [\\w, ]+)?;").matcher(document);
        while (m.find()) {
            String types = m.group(3).replaceAll("(int|boolean) \\w+", "$1");
            found.add(m.group(1) + " " + m.group(2) + "(" + types + ")" + (m.group(4) == null ? "" : m.group(4)));
        }
        return found;
    }

    private static String shown(Method m) {
        StringBuilder b = new StringBuilder();
        b.append(m.getReturnType().getSimpleName()).append(' ').append(m.getName()).append('(');
        for (int i = 0; i < m.getParameterCount(); i++) {
            b.append(i > 0 ? ", " : "").append(m.getParameterTypes()[i].getSimpleName());
        }
        b.append(')');
        for (int i = 0; i < m.getExceptionTypes().length; i++) {
            b.append(i > 0 ? ", " : " throws ").append(m.getExceptionTypes()[i].getSimpleName());
        }
        return b.toString();
    }
}
