import java.lang.reflect.Method;
import java.lang.reflect.Modifier;
import java.nio.file.Files;
import java.nio.file.Path;
import java.util.List;
import java.util.regex.Matcher;
import java.util.regex.Pattern;

/** README.md: its example answers as it says, its tables name each call and each refusal of the class. */
public final class ReadmeTest {
    private static final Pattern CALL = Pattern.compile("^box\\.(\\w+)\\(([^)]*)\\); *// (-?\\d+)", Pattern.MULTILINE);

    public static void main(String[] args) throws Exception {
        String text = Files.readString(Path.of("README.md"));
        example(text);
        calls(text);
        refusals(text);
        Due.end();
    }

    private static void example(String text) {
        StringBuilder run = new StringBuilder();
        Matcher call = CALL.matcher(text);
        while (call.find()) {
            String numbers = call.group(2).replace("L", "").replace(",", "");
            run.append(call.group(1)).append(' ').append(numbers).append(" = ").append(call.group(3)).append("; ");
        }
        List<Calls.Call> calls = Calls.read(run.toString());
        Due.is("README: lines of the example", calls.size(), Pattern.compile("^box\\.", Pattern.MULTILINE).matcher(text).results().count());
        Due.is("README: there is an example", calls.isEmpty() ? 0 : 1, 1);
        RecordBox box = new RecordBox();
        for (Calls.Call each : calls) {
            Due.is("README: " + each.text, Calls.answer(box, each), each.due);
        }
    }

    private static void calls(String text) {
        for (Method method : RecordBox.class.getDeclaredMethods()) {
            if (Modifier.isPublic(method.getModifiers())) {
                StringBuilder row = new StringBuilder("\\| `").append(method.getName()).append("\\(");
                for (int i = 0; i < method.getParameterCount(); i++) {
                    row.append(i > 0 ? ", " : "").append(method.getParameterTypes()[i].getName()).append(" \\w+");
                }
                Due.is("README names " + method.getName(), Pattern.compile(row + "\\)` \\|").matcher(text).results().count(), 1);
            }
        }
    }

    private static void refusals(String text) throws Exception {
        for (java.lang.reflect.Field field : RecordBox.class.getFields()) {
            String row = "| `" + field.getName() + "` | " + field.getInt(null) + " | ";
            Due.is("README names " + field.getName(), text.contains(row) ? 1 : 0, 1);
        }
    }
}
