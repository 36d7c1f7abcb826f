import java.io.IOException;
import java.lang.reflect.Field;
import java.lang.reflect.Method;
import java.lang.reflect.Modifier;
import java.nio.file.Files;
import java.nio.file.Path;
import java.util.Set;
import java.util.TreeSet;
import java.util.regex.Matcher;
import java.util.regex.Pattern;

/** The face of the class, and what of ../shared/LANGUAGE.md can be seen in its text. */
public final class LanguageTest {
    private static final Due CHECK = new Due();

    public static void main(String[] args) throws IOException {
        face();
        classesInside();
        text(Files.readString(Path.of("src/main/java/RiddleTrade.java")));
        CHECK.end();
    }

    private static void face() {
        Class<?> type = RiddleTrade.class;
        CHECK.due("public and final", type.getModifiers(), Modifier.PUBLIC | Modifier.FINAL);
        CHECK.due("public constructor", type.getConstructors().length, 1);
        CHECK.due("constructors", type.getDeclaredConstructors().length, 1);
        Set<String> open = new TreeSet<>();
        for (Method method : type.getDeclaredMethods()) {
            if (!Modifier.isPrivate(method.getModifiers())) {
                open.add(method.getName());
            }
        }
        String names = "account adjust answer ask clearText count deliver ifRounds keep pass perform reason restore "
            + "richest riddle set settledIn stopped trader type undo waits weigh withdraw";
        same("methods of the face", String.join(" ", open), names);
        for (Method method : type.getDeclaredMethods()) {
            boolean hidden = Modifier.isPrivate(method.getModifiers());
            CHECK.due(method.getName() + " is private and bears a public name",
                hidden && open.contains(method.getName()) ? 1 : 0, 0);
        }
        Set<String> fields = new TreeSet<>();
        for (Field field : type.getDeclaredFields()) {
            if (!Modifier.isPrivate(field.getModifiers())) {
                fields.add(field.getName());
            }
        }
        same("constants of the face", String.join(" ", fields), "BAD_VALUE FULL NONE NOT_POSSIBLE UNKNOWN");
    }

    private static void classesInside() {
        Class<?>[] inside = RiddleTrade.class.getDeclaredClasses();
        CHECK.due("at most twelve classes", inside.length < 12 ? 1 : 0, 1);
        for (Class<?> type : inside) {
            CHECK.due(type.getName() + " is static", Modifier.isStatic(type.getModifiers()) ? 1 : 0, 1);
            int fields = 0;
            for (Field field : type.getDeclaredFields()) {
                boolean constant = Modifier.isStatic(field.getModifiers());
                fields += constant ? 0 : 1;
                CHECK.due(field + " is static and not final",
                    constant && !Modifier.isFinal(field.getModifiers()) ? 1 : 0, 0);
            }
            CHECK.due(type.getName() + " has at most twenty fields", fields <= 20 ? 1 : 0, 1);
        }
    }

    private static void text(String source) {
        String code = source.replaceAll("(?s)/\\*.*?\\*/|//[^\n]*", "");
        String[] ruledOut = {"\\bthrow", "\\btry\\b", "\\bcatch\\b", "\\bsynchronized\\b", "\\bassert\\b", "->", "::",
            "\\bimport\\b", "\\bpackage\\b", "\\bprotected\\b", "\\bequals\\b", "\\bhashCode\\b", "\\btoString\\b",
            "Exact\\b", "\\bObject\\b", "\\bLong\\b", "\\bSystem\\.(?!arraycopy\\b)", "\\bMath\\.(?!abs\\b|max\\b|min\\b)",
            "\\bwhile\\b", "[^\\x00-\\x7f]"};
        for (String rule : ruledOut) {
            Matcher matcher = Pattern.compile(rule).matcher(code);
            CHECK.due("'" + rule + "' stands in the class", matcher.find() ? 1 : 0, 0);
        }
        // A name or a number can be tested ahead of its use; what is reckoned between the brackets can't.
        Matcher index = Pattern.compile("\\w\\[([^\\]]*)\\]").matcher(code);
        while (index.find()) {
            String inside = index.group(1);
            boolean plain = inside.matches("\\w*") || inside.matches("[A-Z_]+ \\* [A-Z_]+");
            CHECK.due("the index " + index.group() + " is reckoned", plain ? 0 : 1, 0);
        }
    }

    private static void same(String name, String got, String want) {
        CHECK.due(name + ": " + got, got.equals(want) ? 1 : 0, 1);
    }
}
