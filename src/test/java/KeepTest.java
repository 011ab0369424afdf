/** Promises 19 to 21, 48 and 50: undone, kept, and the numbers of all. */
public final class KeepTest {
    private static final Due due = new Due();

    public static void main(String[] args) {
        undoing();
        undoingEach();
        keeping();
        digesting();
        counting();
        due.close();
    }

    private static void undoing() {
        MaskTouch x = new MaskTouch();
        due.is("undo nothing", x.undo(), -1);
        Due.tell(x, "mask #;body 0 0 0");
        due.is("undo a tell", x.undo(), -1);
        for (int i = 1; i <= 12; i++) {
            x.place(0, i, 0);
            due.is("acts " + i, x.count(3), Math.min(i, 10));
        }
        for (int i = 9; i >= 0; i--) {
            due.is("undo, more: " + i, x.undo(), i);
            due.is("undone, more: " + i, x.body(0, 1), i + 2);
        }
        long digest = x.digest();
        due.is("undo no more", x.undo(), -1);
        due.is("undo no more: nothing happens", x.digest(), digest);
        x.place(0, 50, 0);
        x.place(0, 51, 0);
        due.is("undo anew", x.undo(), 1);
        x.place(0, 60, 0);
        due.is("undo behind an undo", x.undo(), 1);
        due.is("undone behind an undo", x.body(0, 1), 50);
        due.is("undo the first", x.undo(), 0);
        due.is("undone the first", x.body(0, 1), 2);
    }

    /** Every act but none of the refused ones can be undone, to the last bit. */
    private static void undoingEach() {
        MaskTouch x = Due.field("mask ...../.#.#./.....;mask ##;body 0 0 0 flip 1 moves 3 1;body 1 8 0");
        for (int act = 0; act < 14; act++) {
            long digest = x.digest();
            int dots = x.count(2);
            int ticks = x.count(6);
            int places = x.at(1, 1) + 100 * x.at(8, 0);
            int answer = act == 0 ? x.place(0, 7, 7) : act == 1 ? x.flip(0, 2) : act == 2 ? x.layers(0, 3, 4)
                : act == 3 ? x.speed(0, 1, 1) : act == 4 ? x.turn(0, 1, 1) : act == 5 ? x.grow(0)
                : act == 6 ? x.thin(0) : act == 7 ? x.join(0, 1, 0, 0, 0) : act == 8 ? x.slide(0, 2, 2)
                : act == 9 ? x.push(0, 20, 0) : act == 10 ? x.falls() : act == 11 ? x.crop(0)
                : act == 12 ? x.quarter(0) : x.ticks(5);
            due.is("act " + act + " is none refused", answer >= 0 ? 1 : 0, 1);
            due.is("act " + act + " can be undone", x.count(3), 1);
            due.is("act " + act + " changes something", x.digest() != digest ? 1 : 0, 1);
            due.is("act " + act + " undone", x.undo(), 0);
            due.is("act " + act + " undone: all", x.digest(), digest);
            due.is("act " + act + " undone: dots", x.count(2), dots);
            due.is("act " + act + " undone: ticks", x.count(6), ticks);
            due.is("act " + act + " undone: how bodies lie", x.at(1, 1) + 100 * x.at(8, 0), places);
        }
    }

    private static void keeping() {
        MaskTouch x = new MaskTouch();
        due.is("back of nothing", x.back(0), -2);
        due.is("back of nothing, 1", x.back(1), -2);
        due.is("back of no shelf", x.back(2), -1);
        due.is("back of shelf -1", x.back(-1), -1);
        due.is("keep no shelf", x.keep(2), -1);
        due.is("keep shelf -1", x.keep(-1), -1);
        due.is("keep: none kept", x.count(5), 0);
        due.is("keep a new one", x.keep(1), 0);
        due.is("kept: 1", x.count(5), 2);
        Due.tell(x, "mask #;mask ##;body 0 0 0;body 1 5 5");
        x.ticks(2);
        x.place(0, 1, 1);
        due.is("keep", x.keep(0), 2);
        due.is("kept: both", x.count(5), 3);
        due.is("keep: acts stay", x.count(3), 2);
        long digest = x.digest();
        x.place(0, 2, 2);
        x.turn(0, 0, 0);
        x.ticks(7);
        x.feed(0, 0, 0, 0, 0);
        due.is("back", x.back(0), 2);
        due.is("back: all", x.digest(), digest);
        due.is("back: ticks", x.count(6), 2);
        due.is("back: nothing can be undone", x.count(3), 0);
        due.is("back: undo", x.undo(), -1);
        due.is("back: the tape stays", x.count(4), 20);
        due.is("back: how bodies lie", x.at(1, 1), 1);
        x.turn(0, 0, 0);
        due.is("back twice", x.back(0), 2);
        due.is("back twice: all", x.digest(), digest);
        due.is("back to a new one", x.back(1), 0);
        due.is("back to a new one: masks", x.count(0), 0);
        due.is("back to a new one: all", x.digest(), 17);
        due.is("keep over", x.keep(0), 0);
        due.is("back over", x.back(0), 0);
        Due.tell(x, "mask #;body 0 0 0");
        x.place(0, 9, 9);
        due.is("keep refused", x.keep(5), -1);
        due.is("back refused", x.back(5), -1);
        due.is("back refused: acts stay", x.count(3), 1);
    }

    private static void digesting() {
        MaskTouch x = Due.field("mask box 65 2;mask #;body 1 -3 4 flip 2 layer 5 6 moves 7 -8;body 0 9 9");
        long due1 = 17;
        for (long n : new long[] {1, -3, 4, 2, 5, 6, 7, -8, 0, 9, 9, 0, 1, 1, 0, 0, -1, 1, -1, 1, 1, 0}) {
            due1 = 31 * due1 + n;
        }
        due.is("digest", x.digest(), due1);
        due.is("digest without bodies", Due.field("mask #").digest(), (17L * 31 + 1) * 31);
    }

    private static void counting() {
        MaskTouch x = Due.field("mask ##;mask #.#;mask .;body 0 0 0;body 1 0 0");
        due.is("count masks", x.count(0), 3);
        due.is("count bodies", x.count(1), 2);
        due.is("count dots", x.count(2), 4);
        due.is("count acts", x.count(3), 0);
        x.turn(2, 0, 0);
        due.is("count dots then", x.count(2), 5);
        due.is("count acts then", x.count(3), 1);
        x.feed(0, 0, 0, 0, 0);
        due.is("count bytes", x.count(4), 20);
        due.is("count shelves", x.count(5), 0);
        x.keep(0);
        due.is("count shelves, 0", x.count(5), 1);
        x.ticks(4);
        x.ticks(1);
        due.is("count ticks", x.count(6), 5);
        due.is("count 7", x.count(7), -1);
        due.is("count -1", x.count(-1), -1);
    }
}
