import java.io.IOException;
import java.nio.file.Files;
import java.nio.file.Path;
import java.util.ArrayList;
import java.util.List;
import java.util.Set;
import java.util.TreeSet;
import java.util.regex.Matcher;
import java.util.regex.Pattern;

/** The parts of README.md. */
final class Readme {
    private final String text;

    Readme(Path path) throws IOException {
        text = Files.readString(path);
    }

    String text() {
        return text;
    }

    /** What stands between the fences of a language. */
    List<String> blocks(String language) {
        return groups("(?ms)^```" + language + "\n(.*?)^```$");
    }

    /** The cells of the rows of all tables, without the headings. */
    List<String[]> rows() {
        List<String[]> rows = new ArrayList<>();
        for (String line : groups("(?m)^\\| (`.*) \\|$")) {
            rows.add(line.split(" \\| "));
        }
        return rows;
    }

    /** The names of classes that the page puts between backticks. */
    Set<String> classes() {
        return new TreeSet<>(groups("`([A-Z][a-z]\\w+)`"));
    }

    private List<String> groups(String pattern) {
        List<String> found = new ArrayList<>();
        Matcher matcher = Pattern.compile(pattern).matcher(text);
        while (matcher.find()) {
            found.add(matcher.group(1));
        }
        return found;
    }
}
