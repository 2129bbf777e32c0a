import java.lang.reflect.Constructor;
import java.lang.reflect.Field;
import java.lang.reflect.Member;
import java.lang.reflect.Method;
import java.lang.reflect.Modifier;
import java.nio.file.Files;
import java.nio.file.Path;
import java.util.ArrayList;
import java.util.Arrays;
import java.util.List;
import java.util.Map;
import java.util.Set;
import java.util.TreeMap;
import java.util.TreeSet;
import java.util.regex.Matcher;
import java.util.regex.Pattern;

/** The face of the document, and those rules of LANGUAGE.md that can be read off the source and the class. */
public final class FormTest {
    private static int wrong = 0;

    private static void must(boolean is, String what) {
        if (!is) {
            wrong++;
            System.out.println("form: " + what);
        }
    }

    private static String types(Class<?>[] types) {
        StringBuilder all = new StringBuilder();
        for (Class<?> type : types) {
            all.append(all.length() > 0 ? ", " : "").append(type.getSimpleName());
        }
        return all.toString();
    }

    /** The lines of the document's face, without the names of arguments. */
    private static Set<String> faceOf(Path document) throws Exception {
        Set<String> face = new TreeSet<>();
        Matcher line = Pattern.compile("    public (int|long) (\\w+)\\((.*?)\\);").matcher(Files.readString(document));
        while (line.find()) {
            face.add(line.group(1) + " " + line.group(2) + "(" + line.group(3).replaceAll("(\\w+) \\w+", "$1") + ")");
        }
        return face;
    }

    private static void face(Path document) throws Exception {
        Class<?> program = SevenUnwashed.class;
        must(Modifier.isPublic(program.getModifiers()) && Modifier.isFinal(program.getModifiers()), "public and final");
        Set<String> shown = new TreeSet<>();
        Set<String> names = new TreeSet<>();
        for (Method method : program.getDeclaredMethods()) {
            if (Modifier.isPublic(method.getModifiers())) {
                shown.add(method.getReturnType().getSimpleName() + " " + method.getName() + "("
                    + types(method.getParameterTypes()) + ")");
                names.add(method.getName());
            } else {
                must(Modifier.isPrivate(method.getModifiers()), "not private: " + method);
            }
        }
        must(shown.equals(faceOf(document)), "the face: " + shown);
        must(shown.size() == 40 - 1, "39 methods and the constructor are the 40 promises: " + shown.size());
        List<Class<?>> all = new ArrayList<>(Arrays.asList(program.getDeclaredClasses()));
        for (Class<?> inner : all) {
            must(Modifier.isStatic(inner.getModifiers()) && !Modifier.isPublic(inner.getModifiers()), "inner " + inner);
        }
        all.add(program);
        must(all.size() <= 12, "classes: " + all.size());
        for (Class<?> each : all) {
            members(each, names);
        }
        Constructor<?>[] constructors = program.getDeclaredConstructors();
        must(constructors.length == 1 && Modifier.isPublic(constructors[0].getModifiers()), "one public constructor");
    }

    private static void members(Class<?> each, Set<String> names) {
        int fields = 0;
        for (Field field : each.getDeclaredFields()) {
            if (!Modifier.isStatic(field.getModifiers())) {
                fields++;
            } else {
                must(Modifier.isFinal(field.getModifiers()), "static, not final: " + field);
            }
            must(each != SevenUnwashed.class || Modifier.isPrivate(field.getModifiers())
                || Set.of("NONE", "BAD", "STATE", "FULL", "NO").contains(field.getName()), "shown: " + field);
        }
        must(fields <= 20, "fields of " + each + ": " + fields);
        for (Method method : each.getDeclaredMethods()) {
            must(method.getParameterCount() <= 7, "more than seven parameters: " + method);
            must(each == SevenUnwashed.class && Modifier.isPublic(method.getModifiers()) || !names.contains(method.getName()),
                "the name of a public one: " + method);
        }
    }

    private static void words(String source) {
        String code = source.replaceAll("(?s)/\\*.*?\\*/", " ").replaceAll("//[^\n]*", " ").replaceAll("\"[^\"\n]*\"", "\"\"");
        String[] never = {"throw", "throws", "try", "catch", "synchronized", "assert", "import", "package", "Object", "new Integer",
            "hashCode", "toString", "Thread", "Random", "System.in", "System.out", "->", "::", "@", "Exact"};
        for (String word : never) {
            String pattern = Character.isLetter(word.charAt(0)) ? "\\b" + Pattern.quote(word) + "\\b" : Pattern.quote(word);
            must(!Pattern.compile(pattern).matcher(code).find(), "the source says " + word);
        }
        for (char sign : source.toCharArray()) {
            must(sign == '\n' || sign >= ' ' && sign < 127, "a sign of the source: " + (int) sign);
        }
        Matcher library = Pattern.compile("\\b(Math|Integer|Long|System|Arrays)\\.(\\w+)").matcher(code);
        while (library.find()) {
            must(Set.of("max", "min", "bitCount", "arraycopy", "MAX_VALUE", "MIN_VALUE").contains(library.group(2)),
                "the library: " + library.group());
        }
    }

    /** Methods of at most sixty lines, by their indentation. */
    private static void lengths(String source) {
        String[] lines = source.split("\n");
        Map<String, Integer> begun = new TreeMap<>();
        for (int i = 0; i < lines.length; i++) {
            Matcher head = Pattern.compile("^( {4}| {8})\\S.*\\) \\{$").matcher(lines[i]);
            if (head.find()) {
                begun.put(head.group(1), i);
            }
            Matcher foot = Pattern.compile("^( {4}| {8})\\}$").matcher(lines[i]);
            if (foot.find() && begun.containsKey(foot.group(1))) {
                must(i - begun.get(foot.group(1)) <= 60, "a long method ends at line " + (i + 1));
                begun.remove(foot.group(1));
            }
        }
    }

    private static long madeBy(SevenUnwashed x, com.sun.management.ThreadMXBean memory) {
        long before = memory.getCurrentThreadAllocatedBytes();
        for (int i = 0; i < 6; i++) {
            x.person(i + 1, i, 30);
            x.round(i);
        }
        String text = "open 4 d<5|(p=1&!v>3);shut 20 s>3;cold 9";
        for (int i = 0; i < text.length(); i++) {
            x.feed(text.charAt(i));
        }
        x.land();
        x.see(50, 20);
        x.winter(0, 0);
        x.image();
        for (int i = 0; i < 9; i++) {
            x.pass(1);
            x.swap();
            x.aim();
            x.was(0, 0);
            x.can(0, 0);
            x.odds(60, 0);
            x.whose(60);
            x.enough(20);
            x.bears(20);
            x.gone(0);
            x.act(5, 2, i);
            x.tape(0, 1, 60);
            x.shift(0, 0, 0, 1, 9);
            x.undo();
        }
        return memory.getCurrentThreadAllocatedBytes() - before;
    }

    /** No call makes anything: all rows are made with the object. */
    private static void room() {
        com.sun.management.ThreadMXBean memory =
            (com.sun.management.ThreadMXBean) java.lang.management.ManagementFactory.getThreadMXBean();
        long least = Long.MAX_VALUE;
        for (int i = 0; i < 5; i++) {
            least = Math.min(least, madeBy(new SevenUnwashed(), memory));
        }
        must(least < 512, "bytes that calls made: " + least);
    }

    private static final long[] HOSTILE = {Long.MIN_VALUE, Integer.MIN_VALUE, Integer.MIN_VALUE + 10, -100, -2, -1, 0, 1, 2, 5, 10, 20, 60, 128,
        999, 10000, Integer.MAX_VALUE - 5, Integer.MAX_VALUE, Long.MAX_VALUE};

    /** No call throws: every call with all that is hostile, one behind another, to one object. */
    private static void hostile(SevenUnwashed x, String start) throws Exception {
        for (Method method : SevenUnwashed.class.getDeclaredMethods()) {
            if (!Modifier.isPublic(method.getModifiers())) {
                continue;
            }
            Class<?>[] types = method.getParameterTypes();
            Object[] arguments = new Object[types.length];
            long many = 1;
            for (int i = 0; i < types.length; i++) {
                many *= HOSTILE.length;
            }
            for (long each = 0; each < many; each += types.length > 3 ? 7 : 1) {
                long rest = each;
                for (int i = 0; i < types.length; i++) {
                    long v = HOSTILE[(int) (rest % HOSTILE.length)];
                    rest /= HOSTILE.length;
                    arguments[i] = types[i] == boolean.class ? (Object) (v > 0) : types[i] == int.class ? (Object) (int) v : (Object) v;
                }
                try {
                    method.invoke(x, arguments);
                } catch (java.lang.reflect.InvocationTargetException e) {
                    must(false, start + ": " + method.getName() + Arrays.toString(arguments) + " threw " + e.getCause());
                    return;
                }
            }
        }
    }

    private static void neverThrows() throws Exception {
        hostile(new SevenUnwashed(), "a new object");
        hostile(Sentences.some(), "one that holds something");
        hostile(Sentences.full(), "one that holds all it can");
        SevenUnwashed x = Sentences.full();
        x.soldier(0, 0);
        hostile(x, "one that is gone");
    }

    public static void main(String[] args) throws Exception {
        String source = Files.readString(Path.of(args[0]));
        face(Path.of(args[1]));
        words(source);
        lengths(source);
        room();
        neverThrows();
        System.out.println(wrong == 0 ? "the form is as due" : wrong + " things of the form are not as due");
        if (wrong != 0) {
            System.exit(1);
        }
    }
}
