import java.nio.file.Files;
import java.nio.file.Path;
import java.util.ArrayList;
import java.util.LinkedHashMap;
import java.util.List;
import java.util.Map;
import java.util.regex.Matcher;
import java.util.regex.Pattern;

/** The document's sections, and which of their words the tests have quoted. */
final class Document {
    private final Map<String, String> sections = new LinkedHashMap<>();
    private final Map<String, boolean[]> quoted = new LinkedHashMap<>();

    Document(Path file) throws Exception {
        for (String section : Files.readString(file).split("\n## ")) {
            int head = section.indexOf('\n');
            String name = section.substring(0, head).replaceAll(":.*", "");
            String words = oneSpaced(section.substring(head).replaceAll("```\\w*|====", " "));
            sections.put(name, words);
            quoted.put(name, new boolean[words.length()]);
        }
    }

    private static String oneSpaced(String words) {
        return words.replaceAll("\\s+", " ");
    }

    /** Whether a section has just these words, and once alone, so that it is plain which are meant. */
    boolean quote(String section, String words) {
        String all = sections.getOrDefault(section, "");
        int at = all.indexOf(words);
        if (at < 0 || all.indexOf(words, at + 1) >= 0) {
            return false;
        }
        for (int i = 0; i < words.length(); i++) {
            quoted.get(section)[at + i] = true;
        }
        return true;
    }

    /** Where a section says something of that form that nobody has quoted. */
    List<String> unquoted(String section, Pattern form) {
        List<String> all = new ArrayList<>();
        String words = sections.getOrDefault(section, "");
        Matcher found = form.matcher(words);
        while (found.find()) {
            boolean is = true;
            for (int i = found.start(); i < found.end(); i++) {
                is &= quoted.get(section)[i];
            }
            if (!is) {
                all.add(section + ": .." + words.substring(Math.max(0, found.start() - 30),
                    Math.min(words.length(), found.end() + 30)) + "..");
            }
        }
        return all;
    }
}
