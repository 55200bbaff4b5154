import java.io.IOException;
import java.lang.reflect.InvocationTargetException;
import java.lang.reflect.Method;
import java.lang.reflect.Modifier;
import java.nio.file.Files;
import java.nio.file.Path;
import java.util.HashMap;
import java.util.Map;
import java.util.regex.Matcher;
import java.util.regex.Pattern;

/** Runs the calls that README.md shows, from the first to the last on one object, and holds their answers to it. */
public final class ReadmeTest extends Checks {
    private static final Pattern FEEDS = Pattern.compile("feed\\(kerb, \"(.*)\"\\);");
    private static final Pattern CALL = Pattern.compile("kerb\\.(\\w+)\\(([-0-9, ]*)\\);\\s*// (-?\\d+)(:.*)?");

    private static final Map<String, Method> FACE = new HashMap<>();

    private static void callAsShown(KerbSplash kerb, String line, Matcher call) throws ReflectiveOperationException {
        Method method = FACE.get(call.group(1));
        if (method == null) {
            tell(line, "no such call", call.group(3));
            return;
        }
        String[] shown = call.group(2).isEmpty() ? new String[0] : call.group(2).split(", ");
        Object[] numbers = new Object[shown.length];
        for (int i = 0; i < shown.length; i++) {
            numbers[i] = Integer.valueOf(shown[i]);
        }
        try {
            due(line, (Integer) method.invoke(kerb, numbers), Integer.parseInt(call.group(3)));
        } catch (InvocationTargetException thrown) {
            tell(line, thrown.getCause().getClass().getSimpleName(), call.group(3));
        }
    }

    public static void main(String[] args) throws IOException, ReflectiveOperationException {
        about = "README.md";
        String page = Files.readString(Path.of("README.md"));
        for (Method method : KerbSplash.class.getDeclaredMethods()) {
            if (Modifier.isPublic(method.getModifiers())) {
                FACE.put(method.getName(), method);
                checks++;
                if (!page.contains("\nkerb." + method.getName() + "(") && !method.getName().equals("feed")) {
                    tell("how to use " + method.getName(), "nothing", "an example");
                }
            }
        }
        KerbSplash kerb = new KerbSplash();
        for (String line : page.split("\n")) {
            Matcher feeds = FEEDS.matcher(line);
            Matcher call = CALL.matcher(line);
            if (feeds.matches()) {
                feed(kerb, feeds.group(1));
            } else if (call.matches()) {
                callAsShown(kerb, line, call);
            } else if (line.startsWith("kerb.")) {
                tell(line, "nothing that can be held to it", "a call with its answer");
            }
        }
        due("calls shown, 40 or more", checks >= FACE.size() + 40 ? 1 : 0, 1);
        end("what README.md shows");
    }
}
