import java.util.ArrayList;
import java.util.List;

/**
 * What the tests of boundary cases share: a call answers as due, and what it must leave alone is as it was.
 * Each case is asked of several objects that have been used already: some whose ring of acts is empty, some
 * where it is full (a refused call that were remembered would push out the oldest act). No object is asked more
 * than the 512 calls that the document speaks of.
 */
final class Edge {
    interface Call {
        long on(MaskTouch x);
    }

    /** What lies on the tape of every object asked, to see whether it stays: a field of its own. */
    private static final String TAPE = "mask ##/#.;mask disk 1;body 0 3 -4 flip 1;body 1 -5 6";
    private static final int[] ACTS = {0, 4, 12};
    private static final int MOST_ACTS = 10;
    private static final int MOST_BODIES_ASKED = 3;

    private final Due due;

    Edge(Due due) {
        this.due = due;
    }

    /** An object with this field, acts on it (they leave it as told), shelves and a tape that are not empty. */
    static MaskTouch busy(String field, int acts) {
        MaskTouch x = new MaskTouch();
        Due.tell(x, "mask #.#;body 0 7 7");
        x.keep(1);
        if (Due.tell(x, field) < 0) {
            throw new IllegalStateException("a test's own text is no field: " + field);
        }
        boolean hasMask = x.count(0) > 0;
        for (int i = 0; i < acts; i++) {
            if (hasMask) {
                x.turn(0, 0, 0);
            } else {
                x.ticks(1);
            }
        }
        x.keep(0);
        Due.tape(x, TAPE);
        return x;
    }

    /** The call answers so, and nothing happens by it: field, acts, tape and shelves are as they were. */
    void still(String field, String name, Call call, long want) {
        for (int acts : ACTS) {
            MaskTouch x = busy(field, acts);
            String where = name + " of <" + field + "> behind " + acts + " acts";
            due.is(where, call.on(x), want);
            due.is(where + ": nothing happens", portrait(x).equals(portrait(busy(field, acts))) ? 1 : 0, 1);
        }
    }

    /** The call answers so and is one act: undone, all is as it was; the tape and the shelves stay. */
    void acts(String field, String name, Call call, long want) {
        for (int acts : ACTS) {
            MaskTouch x = busy(field, acts);
            String where = name + " of <" + field + "> behind " + acts + " acts";
            int before = Math.min(acts, MOST_ACTS);
            int behind = Math.min(before + 1, MOST_ACTS);
            due.is(where + ": acts ahead", x.count(3), before);
            due.is(where, call.on(x), want);
            due.is(where + ": acts", x.count(3), behind);
            due.is(where + ": undone", x.undo(), behind - 1);
            List<String> was = portrait(busy(field, acts));
            if (before == MOST_ACTS) {
                was.remove(MOST_ACTS); // the oldest act has been pushed out
            }
            due.is(where + ": undone, all is as it was", portrait(x).equals(was) ? 1 : 0, 1);
        }
    }

    /** All that can be known of an object: now, behind each undo, on each shelf, on the tape. It is used up by it. */
    static List<String> portrait(MaskTouch x) {
        List<String> all = new ArrayList<>();
        all.add(view(x));
        for (int i = 0; i <= MOST_ACTS && x.undo() != -1; i++) {
            all.add(view(x));
        }
        for (int shelf = 0; shelf < 2; shelf++) {
            all.add(x.back(shelf) + ": " + view(x));
        }
        all.add(x.tell() + ": " + view(x));
        return all;
    }

    private static String view(MaskTouch x) {
        StringBuilder text = new StringBuilder();
        for (int what : new int[] {0, 1, 2, 4, 5, 6}) {
            text.append(x.count(what)).append(' ');
        }
        text.append(x.digest());
        int masks = x.count(0);
        for (int i = 0; i < masks; i++) {
            text.append(' ').append(x.mask(i, 0));
        }
        int bodies = Math.min(x.count(1), MOST_BODIES_ASKED);
        for (int i = 0; i < bodies; i++) {
            text.append(' ').append(x.touching(i)).append(' ').append(x.at(x.body(i, 1), x.body(i, 2)));
        }
        return text.toString();
    }

    /** What tell() answers to a text with this fault. */
    static int fault(int place, int kind) {
        return -2 - (8 * place + kind);
    }
}
