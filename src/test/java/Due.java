import java.util.ArrayList;
import java.util.List;

/** What the tests share: a count of wrong answers, and texts put on the tape. */
final class Due {
    private int wrong = 0;
    private int asked = 0;

    void is(String call, long got, long want) {
        asked++;
        if (got != want) {
            wrong++;
            System.out.println(call + " answered " + got + ", due is " + want);
        }
    }

    void close() {
        System.out.println(wrong == 0 ? "all " + asked + " answers are as due" : wrong + " answers are not as due");
        if (wrong != 0) {
            System.exit(1);
        }
    }

    /** A text as the numbers that feed() takes, five by five, with zeros behind. */
    static List<int[]> pack(String text) {
        List<int[]> all = new ArrayList<>();
        for (int from = 0; from < text.length(); from += 20) {
            int[] five = new int[5];
            for (int i = 0; i < 20; i++) {
                int sign = from + i < text.length() ? text.charAt(from + i) & 255 : 0;
                five[i / 4] |= sign << (24 - 8 * (i % 4));
            }
            all.add(five);
        }
        return all;
    }

    /** Puts a text on an empty tape. */
    static void tape(MaskTouch x, String text) {
        x.end(0);
        for (int[] five : pack(text)) {
            x.feed(five[0], five[1], five[2], five[3], five[4]);
        }
        x.end(text.length());
    }

    static int tell(MaskTouch x, String text) {
        tape(x, text);
        return x.tell();
    }

    static MaskTouch field(String text) {
        MaskTouch x = new MaskTouch();
        if (tell(x, text) < 0) {
            throw new IllegalStateException("a test's own text is no field: " + text);
        }
        return x;
    }
}
