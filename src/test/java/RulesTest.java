import java.io.PrintWriter;
import java.io.StringWriter;
import java.lang.reflect.Constructor;
import java.lang.reflect.Field;
import java.lang.reflect.Method;
import java.lang.reflect.Modifier;
import java.nio.file.Files;
import java.nio.file.Path;
import java.util.ArrayList;
import java.util.HashMap;
import java.util.HashSet;
import java.util.List;
import java.util.Map;
import java.util.Set;
import java.util.TreeSet;
import java.util.regex.Matcher;
import java.util.regex.Pattern;
import java.util.spi.ToolProvider;

/** What LANGUAGE.md asks of the class and a machine can look at: its face, its calls, its sizes. */
public final class RulesTest {
    private static final Set<String> LIBRARY = Set.of(
        "java/lang/Object.\"<init>\"", "java/lang/Math.max", "java/lang/Math.min", "java/lang/Math.abs",
        "java/lang/Math.floorDiv", "java/lang/Long.bitCount", "java/lang/Integer.bitCount",
        "java/lang/System.arraycopy", "java/util/Arrays.fill", "java/lang/String.length", "java/lang/String.charAt");
    private static final Set<String> RULED_OUT = Set.of("invokedynamic", "athrow", "monitorenter", "checkcast");
    private static final int DEEPEST = 8;
    private static final int MOST_LINES = 60;

    private static int wrong = 0;

    public static void main(String[] args) throws Exception {
        face();
        sizes();
        calls();
        methodLines();
        System.out.println(wrong == 0 ? "all rules are kept" : wrong + " rules are broken");
        if (wrong != 0) {
            System.exit(1);
        }
    }

    private static void rule(boolean kept, String what) {
        if (!kept) {
            wrong++;
            System.out.println("not so: " + what);
        }
    }

    private static void face() throws Exception {
        Set<String> due = new TreeSet<>();
        Matcher m = Pattern.compile("(?m)^    public (int|long) (\\w+)\\((.*)\\);")
            .matcher(Files.readString(Path.of("../shared/DOC.md")));
        while (m.find()) {
            StringBuilder types = new StringBuilder();
            for (String parameter : m.group(3).isEmpty() ? new String[0] : m.group(3).split(", ")) {
                types.append(' ').append(parameter.split(" ")[0]);
            }
            due.add(m.group(1) + " " + m.group(2) + types);
        }
        Set<String> got = new TreeSet<>();
        Set<String> names = new HashSet<>();
        for (Method method : MaskTouch.class.getDeclaredMethods()) {
            if (Modifier.isPrivate(method.getModifiers())) {
                continue;
            }
            rule(Modifier.isPublic(method.getModifiers()), method + " is public or private");
            StringBuilder types = new StringBuilder();
            for (Class<?> type : method.getParameterTypes()) {
                types.append(' ').append(type.getName());
            }
            got.add(method.getReturnType().getName() + " " + method.getName() + types);
            names.add(method.getName());
        }
        rule(due.size() == 49, "the document's face has 49 methods: " + due.size());
        rule(got.equals(due), "the face is the document's: " + got);
        rule(Modifier.isFinal(MaskTouch.class.getModifiers()), "the class is final");
        for (Constructor<?> c : MaskTouch.class.getDeclaredConstructors()) {
            rule(Modifier.isPublic(c.getModifiers()) && c.getParameterCount() == 0, "the one constructor");
        }
        for (Class<?> c : classes()) {
            for (Method method : c.getDeclaredMethods()) {
                rule(Modifier.isPublic(method.getModifiers()) || !names.contains(method.getName()),
                    method + " bears no name of the face");
                rule(method.getParameterCount() <= 7, method + " takes at most seven");
            }
        }
    }

    private static List<Class<?>> classes() {
        List<Class<?>> all = new ArrayList<>(List.of(MaskTouch.class.getDeclaredClasses()));
        all.add(MaskTouch.class);
        return all;
    }

    private static void sizes() {
        rule(classes().size() <= 12, "at most twelve classes");
        for (Class<?> c : classes()) {
            int fields = 0;
            for (Field f : c.getDeclaredFields()) {
                boolean constant = Modifier.isStatic(f.getModifiers());
                fields += constant ? 0 : 1;
                rule(!constant || Modifier.isFinal(f.getModifiers()), f + " is final");
                rule(c != MaskTouch.class || Modifier.isPrivate(f.getModifiers()) || f.getName().equals("NONE"),
                    f + " is private");
            }
            rule(fields <= 20, c + " has at most twenty fields");
        }
    }

    /** Who calls whom, out of javap: no recursion, at most eight deep, nothing but the library that is listed. */
    private static void calls() throws Exception {
        Map<String, Set<String>> calls = new HashMap<>();
        for (Class<?> c : classes()) {
            String method = null;
            for (String line : disassembled(c).split("\n")) {
                Matcher head = Pattern.compile("^  (?! ).*?([\\w$]+)\\(.*\\);$").matcher(line);
                if (head.find()) {
                    String name = head.group(1).equals(c.getName()) ? "\"<init>\"" : head.group(1);
                    method = c.getName() + "." + name;
                    calls.putIfAbsent(method, new HashSet<>());
                }
                String[] words = line.trim().split("\\s+");
                rule(words.length < 2 || !RULED_OUT.contains(words[1]), method + " does without " + line.trim());
                Matcher call = Pattern.compile("// (?:Interface)?Method ([^:]+):").matcher(line);
                if (call.find() && method != null) {
                    String called = call.group(1).contains(".") ? call.group(1) : c.getName() + "." + call.group(1);
                    rule(called.startsWith("MaskTouch") || LIBRARY.contains(called), called + " is in the library");
                    calls.get(method).add(called);
                }
            }
        }
        rule(calls.size() > 100, "methods are found: " + calls.size());
        for (Method m : MaskTouch.class.getDeclaredMethods()) {
            if (Modifier.isPublic(m.getModifiers())) {
                List<String> longest = deepest(calls, "MaskTouch." + m.getName(), 0);
                rule(longest.size() <= DEEPEST, "at most eight deep: " + longest);
            }
        }
    }

    private static List<String> deepest(Map<String, Set<String>> calls, String from, int depth) {
        List<String> longest = new ArrayList<>();
        if (depth <= 20) {
            for (String called : calls.getOrDefault(from, Set.of())) {
                List<String> path = deepest(calls, called, depth + 1);
                if (path.size() > longest.size()) {
                    longest = path;
                }
            }
        }
        longest.add(0, from);
        return longest;
    }

    private static String disassembled(Class<?> c) throws Exception {
        String path = Path.of(MaskTouch.class.getProtectionDomain().getCodeSource().getLocation().toURI()).toString();
        StringWriter text = new StringWriter();
        PrintWriter out = new PrintWriter(text);
        ToolProvider.findFirst("javap").orElseThrow().run(out, out, "-c", "-p", "-cp", path, c.getName());
        return text.toString();
    }

    private static void methodLines() throws Exception {
        List<String> lines = Files.readAllLines(Path.of("src/main/java/MaskTouch.java"));
        for (int i = 0; i < lines.size(); i++) {
            Matcher head = Pattern.compile("^( {4}| {8})(?! )[\\w\\[\\] ]*?(\\w+)\\(.*\\) \\{$").matcher(lines.get(i));
            if (head.find()) {
                int end = lines.subList(i, lines.size()).indexOf(head.group(1) + "}");
                rule(end >= 0 && end < MOST_LINES, head.group(2) + " has at most " + MOST_LINES + " lines");
            }
            String line = lines.get(i);
            rule(!line.contains("->") && !line.contains("::") && !line.contains("catch"), "line " + (i + 1));
        }
    }
}
