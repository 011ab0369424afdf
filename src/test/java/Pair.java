import java.lang.reflect.Method;
import java.lang.reflect.Modifier;
import java.util.Arrays;
import java.util.HashMap;
import java.util.Map;

/** A MaskTouch and a PlainModel that are asked the same: every answer must be the same. */
final class Pair {
    private static final Map<String, Method> MINE = byName(MaskTouch.class);
    private static final Map<String, Method> MODELS = byName(PlainModel.class);

    private final Due due;
    private final String text;
    private final MaskTouch mine = new MaskTouch();
    private final PlainModel model = new PlainModel();

    Pair(Due due, String text) {
        this.due = due;
        this.text = text;
        for (int[] five : Due.pack(text)) {
            ask("feed", five[0], five[1], five[2], five[3], five[4]);
        }
        ask("end", text.length());
        if (ask("tell") < 0) {
            throw new IllegalStateException("a test's own text is no field: " + text);
        }
    }

    private static Map<String, Method> byName(Class<?> of) {
        Map<String, Method> all = new HashMap<>();
        for (Method m : of.getDeclaredMethods()) {
            if (Modifier.isPublic(m.getModifiers())) {
                all.put(m.getName(), m);
            }
        }
        return all;
    }

    long ask(String name, Object... arguments) {
        try {
            long got = ((Number) MINE.get(name).invoke(mine, arguments)).longValue();
            long want = ((Number) MODELS.get(name).invoke(model, arguments)).longValue();
            due.is(name + Arrays.toString(arguments) + " of <" + text + ">", got, want);
            return want;
        } catch (ReflectiveOperationException e) {
            throw new IllegalStateException(name + Arrays.toString(arguments) + " of <" + text + "> threw " + e.getCause(), e);
        }
    }

    /** An act, what has become of all by it, and its undoing. */
    void tryAct(String name, Object... arguments) {
        if (ask(name, arguments) >= 0) {
            ask("digest");
            ask("count", 2);
            ask("undo");
        }
    }
}
