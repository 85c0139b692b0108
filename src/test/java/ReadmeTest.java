import java.io.IOException;
import java.lang.reflect.Field;
import java.lang.reflect.Method;
import java.lang.reflect.Modifier;
import java.nio.file.Files;
import java.nio.file.Path;
import java.util.regex.Matcher;
import java.util.regex.Pattern;

/** README.md tells of every call and constant, and its example answers what it says. */
public final class ReadmeTest {
    private static final Pattern CALL = Pattern.compile("g\\.(\\w+)\\((.*)\\);\\s*// ([^\\s:]+).*");
    private static final Check CHECK = new Check();

    public static void main(String[] args) throws IOException, ReflectiveOperationException {
        String text = Files.readString(Path.of("README.md"));
        everyNameIsTold(text);
        theTestsAreTold(text);
        theExampleHolds(text);
        CHECK.end();
    }

    private static void everyNameIsTold(String text) {
        for (Method method : VoiceGateway.class.getDeclaredMethods()) {
            if (Modifier.isPublic(method.getModifiers())) {
                CHECK.due(method.getName() + " is told", text.contains("| `" + method.getName() + "("), true);
            }
        }
        for (Field field : VoiceGateway.class.getFields()) {
            CHECK.due(field.getName() + " is told", text.contains("`" + field.getName() + "`"), true);
        }
    }

    private static void theTestsAreTold(String text) {
        CHECK.due("how to run the tests is told", text.contains("```sh\n.ci/run\n```"), true);
    }

    private static void theExampleHolds(String text) throws ReflectiveOperationException {
        int from = text.indexOf("```java\n");
        int to = text.indexOf("```\n", from + 8);
        CHECK.due("there is an example", from >= 0 && to > from, true);
        VoiceGateway g = new VoiceGateway();
        String[] lines = text.substring(from + 8, to).split("\n");
        CHECK.due("first line", lines[0], "VoiceGateway g = new VoiceGateway();");
        CHECK.due("the example makes calls", lines.length > 1, true);
        for (int i = 1; i < lines.length; i++) {
            Matcher call = CALL.matcher(lines[i]);
            CHECK.due("a call with its answer: " + lines[i], call.matches(), true);
            CHECK.due(lines[i], answer(g, call.group(1), call.group(2)), call.group(3));
        }
    }

    private static String answer(VoiceGateway g, String name, String written) throws ReflectiveOperationException {
        String[] words = written.isEmpty() ? new String[0] : written.split(", ");
        Class<?>[] types = new Class<?>[words.length];
        Object[] values = new Object[words.length];
        for (int i = 0; i < words.length; i++) {
            boolean isTruth = words[i].equals("true") || words[i].equals("false");
            types[i] = isTruth ? boolean.class : int.class;
            values[i] = isTruth ? (Object) Boolean.valueOf(words[i]) : (Object) Integer.valueOf(words[i]);
        }
        return String.valueOf(VoiceGateway.class.getMethod(name, types).invoke(g, values));
    }
}
