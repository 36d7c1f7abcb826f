import java.io.IOException;
import java.nio.file.Files;
import java.nio.file.Path;
import java.util.ArrayList;
import java.util.BitSet;
import java.util.LinkedHashMap;
import java.util.List;
import java.util.Map;

/** The sections of the document that are promised, and which of their words the tests have quoted. */
final class Document {
    private static final String FIRST = "What it is";
    private static final String[] TERMS =
        {"TRADERS, RIDDLES", "ANSWERS", "SCALES", "A ROUND", "TEXTS", "HISTORY", "ERRORS"};

    private final Map<String, String> texts = new LinkedHashMap<>();
    private final Map<String, BitSet> quoted = new LinkedHashMap<>();

    Document(Path path) throws IOException {
        String section = "";
        for (String line : Files.readAllLines(path)) {
            String heading = headingOf(line);
            if (heading != null) {
                section = heading;
            } else if (!line.startsWith("Ahead of the calls")) {
                texts.merge(section, line.replaceFirst("^`(int |RiddleTrade)[^`]*`: ", "") + "\n", String::concat);
            }
        }
        for (String name : texts.keySet()) {
            quoted.put(name, new BitSet());
        }
    }

    private static String headingOf(String line) {
        for (String term : TERMS) {
            if (line.equals(term)) {
                return term;
            }
        }
        if (!line.startsWith("## ")) {
            return null;
        }
        String name = line.substring(3);
        return name.startsWith("Promise ") ? name.substring(0, name.indexOf(':')) : name;
    }

    /** Whether the section has the words; all places of them are quoted then. */
    boolean quote(String section, String words) {
        String text = texts.getOrDefault(section, "");
        int place = text.indexOf(words);
        boolean found = place >= 0;
        while (place >= 0) {
            quoted.get(section).set(place, place + words.length());
            place = text.indexOf(words, place + 1);
        }
        return found;
    }

    /** The words of the promises and terms that no test has quoted. */
    List<String> unquoted() {
        List<String> rest = new ArrayList<>();
        for (String section : texts.keySet()) {
            if (section.startsWith("Promise ") || List.of(TERMS).contains(section) || section.equals(FIRST)) {
                addUnquoted(section, rest);
            }
        }
        return rest;
    }

    private void addUnquoted(String section, List<String> rest) {
        String text = texts.get(section);
        BitSet marks = quoted.get(section);
        int start = marks.nextClearBit(0);
        while (start < text.length()) {
            int end = marks.nextSetBit(start);
            String words = text.substring(start, end < 0 ? text.length() : Math.min(end, text.length()));
            if (saysSomething(section, words)) {
                rest.add(section + ": " + words.trim());
            }
            start = end < 0 ? text.length() : marks.nextClearBit(end);
        }
    }

    /** The first section tells in one long sentence what the others tell again; just its second one is a promise. */
    private static boolean saysSomething(String section, String words) {
        boolean heading = section.equals(FIRST) && words.trim().startsWith("Riddle exchange");
        return !heading && words.chars().anyMatch(Character::isLetterOrDigit);
    }
}
