import java.io.IOException;
import java.lang.reflect.Method;
import java.lang.reflect.Modifier;
import java.nio.file.Files;
import java.nio.file.Path;
import java.util.List;
import java.util.Set;
import java.util.TreeSet;
import java.util.regex.Matcher;
import java.util.regex.Pattern;
import java.util.stream.Collectors;
import java.util.stream.Stream;

/** What README.md says of the use of the class and of the tests holds as it is written there. */
public final class ReadmeTest {
    private static final String CALL = "trade\\.(\\w+)\\(.*\\)";
    private static final Pattern TOLD = Pattern.compile("\\s*(" + CALL + ");\\s*// (-?\\d+|[A-Z_]+)\\b.*");
    private static final Pattern OFFER = Pattern.compile("`((?:r\\d:|a\\d:|\\.\\d)[^`]*)`");
    private static final Pattern SETTING = Pattern.compile("(\\d) for [^(]*\\((\\d+) to (\\d+); (\\d+) at first\\)");
    private static final Pattern CONSTANT = Pattern.compile("`([A-Z_]+)` \\(?(-\\d)");
    private static final Due CHECK = new Due();

    public static void main(String[] args) throws IOException, InterruptedException {
        Readme readme = new Readme(Path.of("README.md"));
        Workshop workshop = new Workshop();
        try {
            example(readme, workshop);
            commands(readme, workshop);
        } finally {
            workshop.remove();
        }
        tables(readme, Files.readString(Path.of("../shared/DOC.md")));
        constants(readme);
        offers(readme);
        names(readme);
        CHECK.end();
    }

    // ---- the calls with their answers

    private static void example(Readme readme, Workshop workshop) throws IOException, InterruptedException {
        Set<String> told = new TreeSet<>();
        StringBuilder body = new StringBuilder();
        for (String line : String.join("", readme.blocks("java")).split("\n")) {
            Matcher matcher = TOLD.matcher(line);
            if (matcher.matches()) {
                told.add(matcher.group(2));
                body.append(dueLine(matcher.group(3), matcher.group(1)));
            } else {
                truth("an answer stands behind: " + line, !line.contains("//"));
                body.append(line).append('\n');
            }
        }
        same("calls whose answers are shown", String.join(" ", told), String.join(" ", publicMethods()));
        workshop.write("Example.java", program(body.toString()));
        String classes = Path.of(System.getProperty("java.class.path").split(":")[0]).toAbsolutePath().toString();
        CHECK.due("the example", workshop.run("java", "-cp", classes, "Example.java"), 0);
    }

    private static String dueLine(String want, String call) {
        String number = Character.isUpperCase(want.charAt(0)) ? "RiddleTrade." + want : want;
        String shown = call.replace("\\", "\\\\").replace("\"", "\\\"");
        return "due(\"" + shown + "\", " + call + ", " + number + ");\n";
    }

    private static String program(String body) {
        return "public class Example {\n"
            + "static int wrong;\n"
            + "public static void main(String[] args) {\n" + body + "System.exit(wrong);\n}\n"
            + "static void due(String call, int got, int want) {\n"
            + "if (got != want) {\n"
            + "wrong = 1;\n"
            + "System.out.println(call + \" answers \" + got + \", README.md says \" + want);\n"
            + "}\n}\n}\n";
    }

    // ---- the commands

    private static void commands(Readme readme, Workshop workshop) throws IOException, InterruptedException {
        truth(".ci/run can be run", Files.isExecutable(Path.of(".ci/run")));
        boolean named = false;
        for (String block : readme.blocks("sh")) {
            // This test is a part of it.
            boolean whole = block.equals(".ci/run\n");
            named |= whole;
            CHECK.due("the commands " + block, whole ? 0 : workshop.run("sh", "-e", "-c", block), 0);
        }
        truth("README.md names .ci/run", named);
    }

    // ---- what the tables and the words say

    private static void tables(Readme readme, String document) {
        Set<String> called = new TreeSet<>();
        for (String[] row : readme.rows()) {
            if (row.length == 3) {
                called.add(row[0]);
                callRow(row, document);
            } else {
                argumentRow(row[0], row[1], document);
            }
        }
        same("calls in the table", String.join(" ", called), String.join(" ", facesOf(document)));
    }

    private static void callRow(String[] row, String document) {
        String name = row[0].replaceAll("`(\\w+).*", "$1");
        String promise = promiseOf(name, document);
        // Of the calls with a number for what is told the document says just that number.
        boolean unsaid = promise.contains("`: - `") && row[1].startsWith("Tells of ");
        truth(row[0] + " does: " + row[1], unsaid || promise.contains("`: " + row[1] + "\n"));
        truth(row[0] + " answers: " + row[2], promise.contains("\nReturns " + row[2] + "\n"));
    }

    private static void argumentRow(String names, String values, String document) {
        Matcher told = Pattern.compile("`what` of (\\w+)\\(\\)").matcher(names);
        if (told.matches()) {
            truth(names + ": " + values, promiseOf(told.group(1), document).contains("- `what`: " + values + "\n"));
        } else if (names.startsWith("`which`")) {
            settings(values);
        } else if (!names.equals("`riddle`, `answer`")) {
            ranges(names.split(", "), values.split(", "), document);
        }
    }

    private static void ranges(String[] names, String[] values, String document) {
        CHECK.due("values of " + String.join(", ", names), values.length, names.length);
        for (int i = 0; i < Math.min(names.length, values.length); i++) {
            truth(names[i] + ": " + values[i], document.contains("- " + names[i] + ": " + values[i] + "\n"));
        }
    }

    private static void settings(String values) {
        Matcher matcher = SETTING.matcher(values);
        int found = 0;
        while (matcher.find()) {
            int which = Integer.parseInt(matcher.group(1));
            int least = Integer.parseInt(matcher.group(2));
            int most = Integer.parseInt(matcher.group(3));
            RiddleTrade trade = new RiddleTrade();
            CHECK.due("setting " + which, which, found);
            CHECK.due("setting " + which + " at first", trade.count(14 + which), Integer.parseInt(matcher.group(4)));
            CHECK.due("less than the least", trade.set(which, least - 1), RiddleTrade.BAD_VALUE);
            CHECK.due("more than the most", trade.set(which, most + 1), RiddleTrade.BAD_VALUE);
            truth("the least", trade.set(which, least) >= 0);
            CHECK.due("the most", trade.set(which, most), least);
            found++;
        }
        CHECK.due("settings", found, 4);
    }

    private static void constants(Readme readme) {
        Set<String> found = new TreeSet<>();
        Matcher matcher = CONSTANT.matcher(readme.text());
        while (matcher.find()) {
            found.add(matcher.group(1) + " " + matcher.group(2));
        }
        Set<String> due = Set.of("UNKNOWN " + RiddleTrade.UNKNOWN, "BAD_VALUE " + RiddleTrade.BAD_VALUE,
            "FULL " + RiddleTrade.FULL, "NOT_POSSIBLE " + RiddleTrade.NOT_POSSIBLE, "NONE " + RiddleTrade.NONE);
        same("constants", found.toString(), new TreeSet<>(due).toString());
    }

    /** Each offer that the page shows is one that can be read. */
    private static void offers(Readme readme) {
        Matcher matcher = OFFER.matcher(readme.text());
        int found = 0;
        while (matcher.find()) {
            RiddleTrade trade = new RiddleTrade();
            for (char character : matcher.group(1).toCharArray()) {
                trade.type(character);
            }
            truth(matcher.group(1) + " can be read", trade.perform() > -100);
            found++;
        }
        CHECK.due("kinds of offers", found, 3);
    }

    /** Each class that the page names is there, and it names each test. */
    private static void names(Readme readme) throws IOException {
        Set<String> there = new TreeSet<>();
        for (Class<?> inside : RiddleTrade.class.getDeclaredClasses()) {
            there.add(inside.getSimpleName());
        }
        try (Stream<Path> files = Files.list(Path.of("src/test/java"))) {
            for (Path file : files.toList()) {
                there.add(file.getFileName().toString().replace(".java", ""));
            }
        }
        for (String name : readme.classes()) {
            truth(name + " is there", there.contains(name));
        }
        for (String name : there) {
            boolean main = name.matches("\\w+(Test|Bounds)") || List.of("Exchange", "History", "Offers").contains(name);
            truth(name + " is named", !main || readme.classes().contains(name));
        }
    }

    // ---- the face

    private static Set<String> publicMethods() {
        Set<String> names = new TreeSet<>();
        for (Method method : RiddleTrade.class.getDeclaredMethods()) {
            if (Modifier.isPublic(method.getModifiers())) {
                names.add(method.getName());
            }
        }
        return names;
    }

    /** The calls of the document's face as the page writes them: without types. */
    private static Set<String> facesOf(String document) {
        Set<String> faces = new TreeSet<>();
        Matcher matcher = Pattern.compile("public int (\\w+)\\((.*)\\);").matcher(document);
        while (matcher.find()) {
            String names = Stream.of(matcher.group(2).split(", ")).map(part -> part.replaceAll(".* ", ""))
                .collect(Collectors.joining(", "));
            faces.add("`" + matcher.group(1) + "(" + names + ")`");
        }
        return faces;
    }

    private static String promiseOf(String name, String document) {
        for (String part : document.split("(?m)^## ")) {
            if (part.matches("(?s)Promise \\d+: " + name + "\n.*")) {
                return part;
            }
        }
        return "";
    }

    private static void truth(String name, boolean holds) {
        CHECK.due(name, holds ? 1 : 0, 1);
    }

    private static void same(String name, String got, String want) {
        CHECK.due(name + ": " + got, got.equals(want) ? 1 : 0, 1);
    }
}
