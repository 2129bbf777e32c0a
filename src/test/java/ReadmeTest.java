import java.nio.file.DirectoryStream;
import java.nio.file.Files;
import java.nio.file.Path;
import java.util.Set;
import java.util.TreeSet;
import java.util.regex.Matcher;
import java.util.regex.Pattern;

/**
 * README.md names every call of the document's face, with its arguments, and every test; .ci/run runs
 * each; and the example is written out as a program, ReadmeExample, that lays each call's answer beside
 * the number that stands behind it.
 */
public final class ReadmeTest {
    private static int wrong = 0;

    private static void must(boolean is, String what) {
        if (!is) {
            wrong++;
            System.out.println("readme: " + what);
        }
    }

    private static Set<String> found(String form, String text) {
        Set<String> all = new TreeSet<>();
        Matcher found = Pattern.compile(form).matcher(text);
        while (found.find()) {
            all.add(found.group(1));
        }
        return all;
    }

    /** The calls of the face as a caller writes them, without the types. */
    private static Set<String> face(String document) {
        Set<String> all = new TreeSet<>();
        for (String call : found("    public (?:int|long) (\\w+\\(.*?\\));", document)) {
            all.add(call.replaceAll("\\b(int|long|boolean) ", ""));
        }
        return all;
    }

    private static void namesEveryCall(String readme, String document) {
        String table = readme.substring(readme.indexOf("| Call |"), readme.indexOf("No call throws"));
        Set<String> told = new TreeSet<>();
        for (String line : table.split("\n")) {
            told.addAll(found("`(\\w+\\([\\w, ]*\\))`", line.split("\\|")[1]));
        }
        must(told.equals(face(document)), "its calls are " + told + ", those of the document " + face(document));
    }

    private static void namesEveryTest(String readme, String script) throws Exception {
        int many = 0;
        try (DirectoryStream<Path> files = Files.newDirectoryStream(Path.of("src/test/java"), "*Test.java")) {
            for (Path file : files) {
                many++;
                String name = file.getFileName().toString().replace(".java", "");
                must(readme.contains("- `src/test/java/" + name + ".java`: "), "it doesn't name " + name);
                must(Pattern.compile("\\b" + name + "\\b").matcher(script).find(), ".ci/run doesn't run " + name);
            }
        }
        must(many > 0, "no tests");
    }

    private static String program(String readme) {
        StringBuilder all = new StringBuilder("public final class ReadmeExample {\n    public static void main(String[] args) {\n");
        all.append("        Due.at(\"README.md\");\n");
        Pattern told = Pattern.compile("(x\\.\\w+\\(.*\\)); +// (-?\\d+): .*");
        int calls = 0;
        int begin = readme.indexOf("```java\n") + "```java\n".length();
        for (String line : readme.substring(begin, readme.indexOf("```", begin)).split("\n")) {
            Matcher call = told.matcher(line);
            if (call.matches()) {
                calls++;
                all.append("Due.due(\"").append(call.group(1)).append("\", ").append(call.group(1)).append(", ")
                    .append(call.group(2)).append("L);\n");
            } else {
                must(!line.startsWith("x."), "no answer stands behind: " + line);
                all.append(line).append('\n');
            }
        }
        must(calls > 0, "no example");
        return all.append("        Due.end();\n    }\n}\n").toString();
    }

    public static void main(String[] args) throws Exception {
        String readme = Files.readString(Path.of(args[0]));
        namesEveryCall(readme, Files.readString(Path.of(args[1])));
        namesEveryTest(readme, Files.readString(Path.of(args[2])));
        Files.writeString(Path.of(args[3]), program(readme));
        System.out.println(wrong == 0 ? "the readme is as due" : wrong + " things of the readme are not as due");
        if (wrong != 0) {
            System.exit(1);
        }
    }
}
