import java.lang.reflect.Method;
import java.util.ArrayList;
import java.util.List;
import java.util.Random;

/** Random runs of calls, the same on MaskTouch and on PlainModel: every answer must be the same. */
public final class ModelTest {
    /** What each call takes: m mask, b body, x y places, d way, and so on (see argument()). */
    private static final String[] CALLS = {
        "place b p p", "flip b f", "layers b l l", "speed b v v", "turn m w h", "grow m", "thin m",
        "join m m j j f", "slide b d d", "push b d d", "falls", "crop m", "quarter m", "ticks t", "undo",
        "keep s", "back s", "mask m W", "mask m W", "mask m W", "dot m w h", "row m h s", "body b W", "common b b",
        "meet b b s", "contact k", "sieve f", "touching b", "at p p", "first b b n", "reach b d d s",
        "gap b b f", "apart b b f", "best b b f", "slope b b s", "ray r r q q", "seen b b", "island m k i",
        "shifts m m", "like m", "letter m k", "dense m w h f", "dots m B w", "dots m B h", "spread m f", "share m",
        "digest", "alike m m f", "count W",
    };

    private final Random random;
    private final int size; // about how wide the places are on which bodies lie
    private final boolean wide; // whether most masks reach into the second word of their rows
    private final MaskTouch real = new MaskTouch();
    private final PlainModel model = new PlainModel();
    private final StringBuilder log = new StringBuilder();

    private ModelTest(long seed) {
        random = new Random(seed);
        size = new int[] {12, 30, 80, 999}[random.nextInt(4)];
        wide = random.nextInt(5) == 0;
    }

    public static void main(String[] args) throws Exception {
        int runs = args.length > 0 ? Integer.parseInt(args[0]) : 2000;
        long from = args.length > 1 ? Long.parseLong(args[1]) : 1;
        int wrong = 0;
        for (long seed = from; seed < from + runs && wrong < 5; seed++) {
            wrong += new ModelTest(seed).runIsGood(seed) ? 0 : 1;
        }
        System.out.println(wrong == 0 ? "all runs are as the model's" : "runs are not as the model's");
        if (wrong != 0) {
            System.exit(1);
        }
    }

    private boolean runIsGood(long seed) throws Exception {
        boolean good = tellText(seed);
        int calls = 20 + random.nextInt(120);
        for (int i = 0; good && i < calls; i++) {
            int kind = random.nextInt(60);
            good = kind == 0 ? tellText(seed)
                : kind == 1 ? same(seed, "feed", anyInt(), anyInt(), anyInt(), anyInt(), anyInt())
                : kind == 2 ? same(seed, "end", random.nextInt(25) - 2)
                : randomCall(seed);
            good = good && real.digest() == model.digest() && real.count(3) == model.count(3)
                && real.count(6) == model.count(6) && real.count(2) == model.count(2);
            if (!good) {
                System.out.println("run " + seed + " ends wrongly behind:\n" + log);
            }
        }
        return good;
    }

    private boolean randomCall(long seed) throws Exception {
        String[] parts = CALLS[random.nextInt(CALLS.length)].split(" ");
        Object[] arguments = new Object[parts.length - 1];
        int mask = random.nextInt(Math.max(1, model.s.masks.size()));
        for (int i = 1; i < parts.length; i++) {
            arguments[i - 1] = argument(parts[i].charAt(0), mask);
            if (parts[i].equals("m") && i == 1) {
                mask = (Integer) arguments[0];
            }
        }
        return same(seed, parts[0], arguments);
    }

    private Object argument(char kind, int mask) {
        PlainModel.State s = model.s;
        boolean isMask = mask >= 0 && mask < s.masks.size();
        boolean odd = random.nextInt(60) == 0;
        switch (kind) {
            case 'B':
                return random.nextBoolean();
            case 'm':
                return odd ? s.masks.size() - random.nextInt(2) * 9 : random.nextInt(Math.max(1, s.masks.size()));
            case 'b':
                return odd ? s.bodies.size() - random.nextInt(2) * 11 : random.nextInt(Math.max(1, s.bodies.size()));
            case 'p':
                return odd ? around(1001) : around(size);
            case 'f':
                return random.nextInt(odd ? 6 : 4) - (odd ? 1 : 0);
            case 's':
                return odd ? random.nextInt(5) - 2 : random.nextInt(2);
            case 'i':
                return odd ? random.nextInt(8) - 2 : random.nextInt(5);
            case 'l':
                return odd ? random.nextInt(20) - 2 : random.nextInt(random.nextBoolean() ? 2 : 16);
            case 'v':
                return odd ? around(22) : around(6);
            case 'w':
                return (isMask ? random.nextInt(s.masks.get(mask).w() + (odd ? 3 : 1)) : 0) - (odd ? 1 : 0);
            case 'h':
                return (isMask ? random.nextInt(s.masks.get(mask).h() + (odd ? 3 : 1)) : 0) - (odd ? 1 : 0);
            case 'j':
                return odd ? around(101) : around(8);
            case 'd':
                return odd ? around(205) : around(random.nextBoolean() ? 10 : 60);
            case 't':
                return odd ? random.nextInt(24) - 1 : 1 + random.nextInt(6);
            case 'W':
                return random.nextInt(odd ? 13 : 10) - (odd ? 1 : 0);
            case 'k':
                return random.nextInt(8) - (odd ? 3 : 1);
            case 'n':
                return odd ? random.nextInt(400) - 50 : random.nextInt(50);
            case 'r':
                return odd ? around(10100) : around(size);
            default:
                return odd ? around(305) : around(60);
        }
    }

    private int around(int most) {
        return random.nextInt(2 * most + 1) - most;
    }

    private int anyInt() {
        return random.nextInt();
    }

    private boolean same(long seed, String name, Object... arguments) throws Exception {
        Method mine = byName(MaskTouch.class, name, arguments.length);
        Method theirs = byName(PlainModel.class, name, arguments.length);
        Object got = mine.invoke(real, arguments);
        Object due = theirs.invoke(model, arguments);
        log.append(name).append(java.util.Arrays.toString(arguments)).append(" -> ").append(got).append('\n');
        if (!got.equals(due)) {
            System.out.println("run " + seed + ": " + name + java.util.Arrays.toString(arguments) + " answered "
                + got + ", due is " + due);
        }
        return got.equals(due);
    }

    private static Method byName(Class<?> of, String name, int arguments) {
        for (Method m : of.getDeclaredMethods()) {
            if (m.getName().equals(name) && m.getParameterCount() == arguments
                && java.lang.reflect.Modifier.isPublic(m.getModifiers())) {
                return m;
            }
        }
        throw new IllegalStateException(name);
    }

    // ---- texts

    private boolean tellText(long seed) throws Exception {
        String text = text();
        if (random.nextInt(4) == 0) {
            text = spoiled(text);
        }
        text = text.substring(0, Math.min(text.length(), 400));
        log.append("text: ").append(text).append('\n');
        boolean good = same(seed, "end", 0);
        for (int[] five : Due.pack(text)) {
            good = good && same(seed, "feed", five[0], five[1], five[2], five[3], five[4]);
        }
        return good && same(seed, "end", text.length()) && same(seed, "tell");
    }

    private String text() {
        List<String> parts = new ArrayList<>();
        int masks = 1 + random.nextInt(random.nextInt(6) == 0 ? 9 : 4);
        for (int i = 0; i < masks; i++) {
            parts.add("mask " + form());
        }
        int bodies = random.nextInt(random.nextInt(3) == 0 ? 12 : 7);
        for (int i = 0; i < bodies; i++) {
            parts.add(1 + random.nextInt(parts.size()), null);
        }
        StringBuilder text = new StringBuilder();
        int told = 0;
        for (String part : parts) {
            // A text that would be too long for the tape is told without its last parts.
            if (text.length() + (part == null ? 45 : part.length() + 5) > 400) {
                break;
            }
            text.append(text.length() > 0 ? ";" : "").append(blanks());
            if (part != null) {
                text.append(part);
                told++;
            } else {
                text.append(bodyText(told));
            }
        }
        return text.toString();
    }

    private String bodyText(int masks) {
        StringBuilder text = new StringBuilder("body ").append(random.nextInt(masks + (random.nextInt(90) == 0 ? 1 : 0)));
        text.append(' ').append(around(size)).append(' ').append(around(size));
        if (random.nextInt(3) == 0) {
            text.append(blanks()).append("flip ").append(random.nextInt(4));
        }
        if (random.nextInt(4) == 0) {
            text.append(blanks()).append("layer ").append(random.nextInt(16)).append(' ').append(random.nextInt(16));
        }
        if (random.nextInt(2) == 0) {
            text.append(" moves ").append(around(6)).append(' ').append(around(6));
        }
        return text.toString();
    }

    private String form() {
        boolean large = random.nextInt(wide ? 2 : 12) == 0;
        int w = wide && large ? 60 + random.nextInt(41) : 1 + random.nextInt(large ? 100 : 9);
        int h = 1 + random.nextInt(large ? 40 : 9);
        switch (random.nextInt(6)) {
            case 0:
                return "box " + w + " " + h;
            case 1:
                return "frame " + w + blanks() + " " + h;
            case 2:
                return "disk " + random.nextInt(large ? 20 : 4);
            default:
                int rows = Math.max(1, Math.min(h, (wide ? 200 : 60) / w));
                int rare = 2 + random.nextInt(5);
                StringBuilder text = new StringBuilder();
                for (int y = 0; y < rows; y++) {
                    text.append(y > 0 ? "/" + blanks() : "");
                    for (int x = 0; x < w; x++) {
                        text.append(random.nextInt(rare) == 0 ? '.' : '#');
                    }
                }
                return text.toString();
        }
    }

    private String blanks() {
        return "   ".substring(random.nextInt(12) == 0 ? 0 : 3);
    }

    private String spoiled(String text) {
        int at = random.nextInt(text.length());
        String signs = "ab0123459#./;- \u00e9\u0000mflxyBODY";
        char sign = signs.charAt(random.nextInt(signs.length()));
        switch (random.nextInt(5)) {
            case 0:
                return text.substring(0, at);
            case 1:
                return text.substring(0, at) + text.substring(at + 1);
            case 2:
                return text.substring(0, at) + sign + text.substring(at);
            case 3:
                return text + ";" + text;
            default:
                return text.substring(0, at) + sign + text.substring(at + 1);
        }
    }
}
