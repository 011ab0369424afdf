import java.io.IOException;
import java.lang.reflect.Method;
import java.lang.reflect.Modifier;
import java.nio.file.Files;
import java.nio.file.Path;
import java.util.regex.Matcher;
import java.util.regex.Pattern;

/** README.md's examples answer what it says they do, and its table of calls has each of them. */
public final class ReadmeTest {
    private static final Pattern CALL =
        Pattern.compile("^(?:x\\.(\\w+)\\(([-0-9, ]*)\\)|tell\\(x, \"([^\"]*)\"\\)); *// (-?[0-9]+).*$", Pattern.MULTILINE);
    private static final Due due = new Due();

    public static void main(String[] args) throws Exception {
        String page = readPage();
        examples(page);
        table(page);
        due.close();
    }

    private static String readPage() throws IOException {
        return Files.readString(Path.of("README.md"));
    }

    private static void examples(String page) throws Exception {
        MaskTouch x = new MaskTouch();
        Matcher found = CALL.matcher(page);
        int calls = 0;
        while (found.find()) {
            long got = found.group(1) == null ? Due.tell(x, found.group(3)) : call(x, found.group(1), found.group(2));
            due.is(found.group(), got, Long.parseLong(found.group(4)));
            calls++;
        }
        long starts = page.lines().filter(line -> line.matches("(x\\.|tell\\(x).*")).count();
        due.is("each line of the example is asked", calls, starts);
        due.is("there is an example", calls > 0 ? 1 : 0, 1);
    }

    private static long call(MaskTouch x, String name, String arguments) throws Exception {
        String[] parts = arguments.isBlank() ? new String[0] : arguments.split(", *");
        Object[] numbers = new Object[parts.length];
        Class<?>[] kinds = new Class<?>[parts.length];
        for (int i = 0; i < parts.length; i++) {
            numbers[i] = Integer.parseInt(parts[i]);
            kinds[i] = int.class;
        }
        return ((Number) MaskTouch.class.getMethod(name, kinds).invoke(x, numbers)).longValue();
    }

    private static void table(String page) {
        int start = page.indexOf("| what one wants");
        String table = page.substring(start, page.indexOf("\n\n", start));
        for (Method method : MaskTouch.class.getDeclaredMethods()) {
            if (Modifier.isPublic(method.getModifiers())) {
                due.is("the table has " + method.getName(), table.split("`" + method.getName() + "`", -1).length, 2);
            }
        }
    }
}
