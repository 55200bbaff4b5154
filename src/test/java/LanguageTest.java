import java.io.IOException;
import java.lang.reflect.Field;
import java.lang.reflect.Method;
import java.lang.reflect.Modifier;
import java.nio.file.Files;
import java.nio.file.Path;
import java.util.ArrayList;
import java.util.Arrays;
import java.util.List;
import java.util.Set;
import java.util.TreeSet;

/** Those rules of LANGUAGE.md that can be seen from outside: the face, the names, the numbers, the words not used. */
public final class LanguageTest {
    private static final String FACE = "feed street rain law fault told cell drain leaves person work does minutes"
        + " shower sums says car traffic pass clear deep when blame look stand pace moved mend share meant dip town"
        + " sweep ice image restore status count";
    private static final String[] NOT_USED = {"->", "::", "try {", "catch (", "finally", "synchronized", "assert ",
        "Exact(", "getMessage", "System.out", "Random", "Thread", "@", "new int[][", "static {", "while (true)"};

    private static int wrong;

    private static void must(boolean is, String what) {
        if (!is) {
            wrong++;
            System.out.println(what);
        }
    }

    private static void face() {
        Set<String> publics = new TreeSet<>();
        for (Method method : KerbSplash.class.getDeclaredMethods()) {
            if (Modifier.isPublic(method.getModifiers())) {
                must(publics.add(method.getName()), "two of the name " + method.getName());
                must(method.getReturnType() == int.class, method + " answers no int");
            } else {
                must(Modifier.isPrivate(method.getModifiers()), method + " can be seen");
            }
        }
        must(publics.equals(new TreeSet<>(Arrays.asList(FACE.split(" ")))), "the face is " + publics);
        must(Modifier.isFinal(KerbSplash.class.getModifiers()), "the class is not final");
        must(KerbSplash.class.getConstructors().length == 1, "constructors");
        must(KerbSplash.class.getFields().length == 1, "public fields");
    }

    private static void classes() {
        List<Class<?>> all = new ArrayList<>(List.of(KerbSplash.class.getDeclaredClasses()));
        all.add(KerbSplash.class);
        must(all.size() <= 12, all.size() + " classes");
        Set<String> names = new TreeSet<>(Arrays.asList(FACE.split(" ")));
        for (Class<?> one : all) {
            int fields = 0;
            for (Field field : one.getDeclaredFields()) {
                if (Modifier.isStatic(field.getModifiers())) {
                    must(Modifier.isFinal(field.getModifiers()), field + " is not final");
                } else {
                    fields++;
                }
            }
            must(fields <= 20, one + " has " + fields + " fields");
            for (Method method : one.getDeclaredMethods()) {
                boolean own = !Modifier.isPublic(method.getModifiers());
                must(!own || !names.contains(method.getName()), method + " bears a public one's name");
                must(!own || method.getParameterCount() <= 7, method + " takes too much");
            }
        }
    }

    private static void words() throws IOException {
        List<String> lines = Files.readAllLines(Path.of("src/main/java/KerbSplash.java"));
        int since = 0;
        for (int i = 0; i < lines.size(); i++) {
            String line = lines.get(i);
            String where = "line " + (i + 1) + ": ";
            for (String word : NOT_USED) {
                must(!line.contains(word), where + word);
            }
            must(line.chars().allMatch(c -> c < 128), where + "a sign above 127");
            must(!line.startsWith("import") || line.matches("import java.util.(Arrays|NoSuchElementException);"),
                where + line);
            must(!line.contains("\" +") && !line.contains("+ \""), where + "texts joined by +");
            if (line.matches("( {4}| {8})(private|public) [^=;]*")) {
                since = i;
            }
            if (line.matches("( {4}| {8})\\}") && lines.get(since).contains("(")) {
                must(i - since <= 60, where + "a method of " + (i - since) + " lines");
            }
        }
    }

    public static void main(String[] args) throws IOException {
        face();
        classes();
        words();
        System.out.println(wrong == 0 ? "the class keeps to the rules that are looked at" : wrong + " rules are broken");
        if (wrong != 0) {
            System.exit(1);
        }
    }
}
