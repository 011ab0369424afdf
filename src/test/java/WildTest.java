import java.lang.reflect.InvocationTargetException;
import java.lang.reflect.Method;
import java.lang.reflect.Modifier;
import java.util.Arrays;

/**
 * Numbers far beyond every limit, in each place of each call: it is refused as the document says, nothing happens,
 * and nothing is thrown. Among them are numbers that would be good ones if some of their bits were lost.
 */
public final class WildTest {
    private static final String FIELD = "mask ##/#.;mask .#.;body 0 0 0 moves 1 1;body 0 1 0;body 1 5 5";
    private static final int[] WILD = {Integer.MIN_VALUE, Integer.MIN_VALUE + 1, Integer.MIN_VALUE + 256, -16777216, -16777215,
        -65536, -65535, 65536, 65537, 16777216, 16777217, 0x40000000, 0x7FFFFF00, Integer.MAX_VALUE - 1, Integer.MAX_VALUE};

    /** Each call with numbers that are good, then what it answers with a wild one in each place: below, above. */
    private static final String[] CALLS = {
        "end 0 : -1 -1",
        "place 0 1 1 : -1 -1 : -1 -1 : -1 -1",
        "flip 0 1 : -1 -1 : -1 -1",
        "layers 0 2 2 : -1 -1 : -1 -1 : -1 -1",
        "speed 0 2 2 : -1 -1 : -1 -1 : -1 -1",
        "turn 0 0 0 : -1 -1 : -1 -1 : -1 -1",
        "grow 0 : -1 -1",
        "thin 0 : -1 -1",
        "join 0 1 0 0 0 : -1 -1 : -1 -1 : -1 -1 : -1 -1 : -1 -1",
        "slide 0 1 1 : -1 -1 : -1 -1 : -1 -1",
        "push 0 1 1 : -1 -1 : -1 -1 : -1 -1",
        "crop 0 : -1 -1",
        "quarter 0 : -1 -1",
        "ticks 1 : -1 -1",
        "keep 0 : -1 -1",
        "back 0 : -1 -1",
        "mask 0 0 : -1 -1 : -1 -1",
        "dot 0 0 0 : -1 -1 : 0 0 : 0 0",
        "row 0 0 0 : 0 0 : 0 0 : 0 0",
        "body 0 0 : -2000 -2000 : -2000 -2000",
        "common 0 1 : -1 -1 : -1 -1",
        "meet 0 1 0 : -2000 -2000 : -2000 -2000 : -2000 -2000",
        "contact 0 : -1 -2",
        "sieve 0 : -1 -1",
        "touching 0 : -1 -1",
        "at 0 0 : 0 0 : 0 0",
        "first 0 1 1 : -1 -1 : -1 -1 : -1 -1",
        "reach 0 1 1 0 : -1 -1 : -1 -1 : -1 -1 : -1 -1",
        "gap 0 1 0 : -1 -1 : -1 -1 : -1 -1",
        "apart 0 1 0 : -2000 -2000 : -2000 -2000 : -2000 -2000",
        "best 0 1 0 : -2000 -2000 : -2000 -2000 : -2000 -2000",
        "slope 0 1 0 : -2000000 -2000000 : -2000000 -2000000 : -2000000 -2000000",
        "ray 0 0 1 1 : -1 -1 : -1 -1 : -1 -1 : -1 -1",
        "seen 0 1 : -1 -1 : -1 -1",
        "island 0 0 0 : -1 -1 : -1 -1 : -1 -1",
        "shifts 0 1 : -1 -1 : -1 -1",
        "like 0 : -1 -1",
        "letter 0 0 : -1 -1 : -1 -2",
        "dense 0 1 1 0 : -1 -1 : -1 -1 : -1 -1 : -1 -1",
        "spread 0 0 : -1 -1 : -1 -1",
        "share 0 : -1 -1",
        "alike 0 1 0 : -1 -1 : -1 -1 : -1 -1",
        "count 0 : -1 -1",
    };

    private static final Due due = new Due();
    private static final Edge edge = new Edge(due);

    public static void main(String[] args) {
        for (String call : CALLS) {
            String[] parts = call.split(" : ");
            String[] head = parts[0].split(" ");
            Method method = method(head[0]);
            due.is(head[0] + " takes so many", method.getParameterCount(), head.length - 1);
            due.is(head[0] + " has an answer for each", parts.length - 1, head.length - 1);
            for (int place = 0; place < method.getParameterCount(); place++) {
                String[] want = parts[place + 1].split(" ");
                for (int wild : WILD) {
                    ask(method, head, place, wild, Long.parseLong(want[wild < 0 ? 0 : 1]));
                }
            }
            allWild(method);
        }
        rowsAndColumns();
        anyBytes();
        allAreAsked();
        due.close();
    }

    private static Method method(String name) {
        for (Method m : MaskTouch.class.getDeclaredMethods()) {
            if (m.getName().equals(name) && Modifier.isPublic(m.getModifiers())) {
                return m;
            }
        }
        throw new IllegalStateException("no call " + name);
    }

    private static long invoke(Method method, MaskTouch x, Object[] numbers) {
        try {
            return ((Number) method.invoke(x, numbers)).longValue();
        } catch (InvocationTargetException | IllegalAccessException e) {
            throw new IllegalStateException(method.getName() + Arrays.toString(numbers) + " threw " + e.getCause(), e);
        }
    }

    private static void ask(Method method, String[] head, int place, int wild, long want) {
        Object[] numbers = new Object[head.length - 1];
        for (int i = 0; i < numbers.length; i++) {
            numbers[i] = i == place ? wild : Integer.parseInt(head[i + 1]);
        }
        edge.still(FIELD, head[0] + Arrays.toString(numbers), x -> invoke(method, x, numbers), want);
    }

    /** Nothing is thrown with wild numbers in every place, of a field and of nothing, and nothing happens. */
    private static void allWild(Method method) {
        for (String field : new String[] {FIELD, ""}) {
            for (int shift = 0; shift < WILD.length; shift++) {
                Object[] numbers = new Object[method.getParameterCount()];
                for (int i = 0; i < numbers.length; i++) {
                    numbers[i] = WILD[(7 * i + shift) % WILD.length];
                }
                MaskTouch x = Edge.busy(field, 4);
                invoke(method, x, numbers);
                String name = method.getName() + Arrays.toString(numbers);
                due.is(name + ": nothing happens", Edge.portrait(x).equals(Edge.portrait(Edge.busy(field, 4))) ? 1 : 0, 1);
            }
        }
    }

    /** dots() is the one call that takes something else than numbers, too. */
    private static void rowsAndColumns() {
        for (int wild : WILD) {
            for (boolean down : new boolean[] {false, true}) {
                edge.still(FIELD, "dots of mask " + wild, x -> x.dots(wild, down, 0), -1);
                edge.still(FIELD, "dots of line " + wild, x -> x.dots(0, down, wild), -1);
            }
        }
    }

    /** feed() takes any numbers. */
    private static void anyBytes() {
        for (int wild : WILD) {
            MaskTouch x = new MaskTouch();
            due.is("feed " + wild, x.feed(wild, ~wild, -wild, wild >>> 1, wild << 1), 20);
            due.is("tell " + wild, x.tell() < -2 ? 1 : 0, 1);
        }
    }

    private static void allAreAsked() {
        String without = " feed tell falls undo digest dots ";
        for (Method m : MaskTouch.class.getDeclaredMethods()) {
            if (Modifier.isPublic(m.getModifiers()) && !without.contains(" " + m.getName() + " ")) {
                boolean asked = false;
                for (String call : CALLS) {
                    asked |= call.startsWith(m.getName() + " ");
                }
                due.is(m.getName() + " is asked", asked ? 1 : 0, 1);
            }
        }
    }
}
