import java.lang.reflect.Constructor;
import java.lang.reflect.Method;
import java.lang.reflect.Modifier;
import java.nio.file.Files;
import java.nio.file.Path;
import java.util.Arrays;
import java.util.TreeSet;
import java.util.regex.Matcher;
import java.util.regex.Pattern;

/** The public face of the document, and those rules of LANGUAGE.md that a text or the class itself can show. */
public final class FaceTest {
    private static final String[] FACE = {
        "record int int", "change int int", "told int int", "song int int", "stick int int", "prices int int int", "coin int",
        "set int int", "key int", "ticks int", "carriage int", "count int", "next int", "when int", "done", "better int",
        "heard int int int int int", "mayBe int int int int int", "type long int", "evening", "image", "restore",
        "sheet int int int", "drop int", "item int int int int"};
    private static final String FORBIDDEN = "\\b(throw|throws|try|catch|finally|synchronized|assert|import|package|var|volatile|native|"
        + "Thread|Object|Random|System\\.(?!arraycopy)\\w+|\\w+Exact|hashCode|toString|equals)\\b|->|::|@";

    public static void main(String[] args) throws Exception {
        face();
        constants();
        source();
        Due.end();
    }

    private static void face() {
        TreeSet<String> due = new TreeSet<>(Arrays.asList(FACE));
        TreeSet<String> seen = new TreeSet<>();
        TreeSet<String> hidden = new TreeSet<>();
        for (Method method : RecordBox.class.getDeclaredMethods()) {
            if (Modifier.isPrivate(method.getModifiers())) {
                hidden.add(method.getName());
                continue;
            }
            StringBuilder text = new StringBuilder(method.getName());
            for (Class<?> type : method.getParameterTypes()) {
                text.append(' ').append(type.getName());
            }
            seen.add(text.toString());
            Due.same("returns int", method.getReturnType().getName(), "int");
            Due.is("public", Modifier.isPublic(method.getModifiers()) ? 1 : 0, 1);
        }
        Due.same("the face", seen.toString(), due.toString());
        for (String call : FACE) {
            Due.is("no private method named " + call, hidden.contains(call.split(" ")[0]) ? 1 : 0, 0);
        }
        Constructor<?>[] constructors = RecordBox.class.getDeclaredConstructors();
        Due.is("one constructor", constructors.length, 1);
        Due.is("of nothing", constructors[0].getParameterCount(), 0);
        Due.is("public", Modifier.isPublic(constructors[0].getModifiers()) ? 1 : 0, 1);
        Due.is("final", Modifier.isFinal(RecordBox.class.getModifiers()) ? 1 : 0, 1);
    }

    private static void constants() throws Exception {
        String[] names = {"BAD", "NOT", "FULL", "NONE", "NULL", "CAST", "INDEX", "SIZE"};
        int[] values = {-1, -2, -3, -4, -11, -12, -13, -14};
        for (int i = 0; i < names.length; i++) {
            Due.is(names[i], RecordBox.class.getDeclaredField(names[i]).getInt(null), values[i]);
        }
        int open = 0;
        for (java.lang.reflect.Field field : RecordBox.class.getDeclaredFields()) {
            open += Modifier.isPrivate(field.getModifiers()) ? 0 : 1;
            if (Modifier.isStatic(field.getModifiers())) {
                Due.is("static is final: " + field.getName(), Modifier.isFinal(field.getModifiers()) ? 1 : 0, 1);
            }
        }
        Due.is("no other constant", open, names.length);
    }

    private static void source() throws Exception {
        String text = Files.readString(Path.of("src/main/java/RecordBox.java"));
        String code = text.replaceAll("(?s)/\\*.*?\\*/", " ").replaceAll("//[^\n]*", " ");
        Matcher found = Pattern.compile(FORBIDDEN).matcher(code);
        while (found.find()) {
            Due.same("LANGUAGE.md", found.group(), "nothing of the kind");
        }
        for (int i = 0; i < text.length(); i++) {
            if (text.charAt(i) > 126) {
                Due.is("a sign beyond 126 at " + i, text.charAt(i), 0);
            }
        }
        Due.is("classes", Pattern.compile("\\b(class|record|enum|interface) [A-Z]").matcher(code).results().count() <= 12 ? 1 : 0, 1);
    }
}
