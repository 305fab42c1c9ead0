import java.lang.reflect.Constructor;
import java.lang.reflect.Field;
import java.lang.reflect.Method;
import java.lang.reflect.Modifier;
import java.nio.file.Files;
import java.nio.file.Path;
import java.util.ArrayList;
import java.util.List;
import java.util.TreeSet;
import java.util.regex.Matcher;
import java.util.regex.Pattern;

/** The rules of LANGUAGE.md that can be seen from the class and from its text. */
public final class LanguageTest {
    private static final Kit KIT = new Kit("LanguageTest");
    private static final List<String> FACE = List.of("feed", "end", "fuel", "run", "fault", "steps", "count", "size",
            "letter", "tell");

    public static void main(String[] args) throws Exception {
        face();
        insides();
        words(Files.readString(Path.of("src/main/java/ClauseKernel.java")));
        KIT.end();
    }

    private static void face() {
        TreeSet<String> members = new TreeSet<>();
        for (Method method : ClauseKernel.class.getDeclaredMethods()) {
            if (Modifier.isPrivate(method.getModifiers())) {
                KIT.due(method + " has a name of its own", FACE.contains(method.getName()), false);
            } else {
                members.add(method.getReturnType() + " " + method.getName() + method.getParameterCount());
            }
        }
        KIT.due("the methods", members.toString(), "[int count1, int end1, int fault1, int fuel1, int letter1, int run0, "
                + "int size0, int steps0, int tell1, void feed5]");
        List<String> fields = new ArrayList<>();
        for (Field field : ClauseKernel.class.getDeclaredFields()) {
            if (!Modifier.isPrivate(field.getModifiers())) {
                fields.add(field.getName());
            }
        }
        KIT.due("the fields", fields.toString(), "[NONE]");
        Constructor<?>[] constructors = ClauseKernel.class.getDeclaredConstructors();
        KIT.due("constructors", constructors.length, 1);
        KIT.due("public and final", ClauseKernel.class.getModifiers(), Modifier.PUBLIC | Modifier.FINAL);
    }

    private static void insides() {
        Class<?>[] inside = ClauseKernel.class.getDeclaredClasses();
        KIT.due("at most some twelve classes", inside.length <= 12, true);
        for (Class<?> one : inside) {
            KIT.due(one + " is static", Modifier.isStatic(one.getModifiers()), true);
            int fields = 0;
            for (Field field : one.getDeclaredFields()) {
                if (Modifier.isStatic(field.getModifiers())) {
                    KIT.due(field + " is final", Modifier.isFinal(field.getModifiers()), true);
                } else {
                    fields++;
                }
            }
            KIT.due(one + " has few fields", fields <= 20, true);
            for (Method method : one.getDeclaredMethods()) {
                KIT.due(method + " takes few", method.getParameterCount() <= 7, true);
                KIT.due(method + " has a name of its own", FACE.contains(method.getName()), false);
            }
        }
    }

    private static void words(String source) {
        String bare = source.replaceAll("(?s)/\\*.*?\\*/", "").replaceAll("//[^\n]*", "");
        for (String word : new String[] {"throw", "throws", "try", "catch", "synchronized", "assert", "static \\{", "->",
            "::", "Exact", "hashCode", "toString", "@", "package", "native", "volatile", "Object", "System\\.(?!arraycopy)",
            "Math\\.(?!max|min|abs)", "Arrays\\.(?!copyOf|copyOfRange|fill)", "Long\\.", "Integer\\.", "while \\(true"}) {
            Matcher matcher = Pattern.compile(word.matches("\\w+") ? "\\b" + word + "\\b" : word).matcher(bare);
            KIT.due("found " + word, matcher.find(), false);
        }
        Matcher imports = Pattern.compile("import ([^;]*);").matcher(bare);
        while (imports.find()) {
            KIT.due("import " + imports.group(1), imports.group(1).matches("java\\.util\\.(Array)?(List|s)"), true);
        }
    }
}
