/** Masks whose rows reach into their second word, moved by every number of places, against PlainModel. */
public final class WideTest {
    private static final Due due = new Due();
    private static final int[] CUTS = {1, 2, 62, 63, 64, 65, 66, 98, 99, 100};

    public static void main(String[] args) {
        placedEverywhere();
        joinedEverywhere();
        grownAndThinned();
        cropped();
        questions();
        mirrored();
        quartered();
        due.close();
    }

    /** The largest mask with a pattern of no symmetry, and a lower one that is wide, too. */
    private static Pair patterns(String bodies) {
        Pair p = new Pair(due, "mask frame 100 40;mask disk 19;mask box 67 5;mask disk 3" + bodies);
        p.ask("join", 0, 1, 5, -4, 3);
        p.ask("join", 0, 1, 46, 9, 3);
        p.ask("join", 0, 1, 70, -11, 3);
        p.ask("join", 0, 0, 9, 7, 3);
        p.ask("join", 2, 1, 40, -9, 3);
        p.ask("join", 2, 3, 61, 0, 3);
        p.ask("join", 2, 2, 3, 1, 3);
        return p;
    }

    private static void placedEverywhere() {
        for (int dy : new int[] {-39, -5, -4, -1, 0, 1, 3, 20, 39, 40}) {
            for (int from = -102; from <= 102; from += 52) {
                Pair p = patterns(";body 0 0 0;body 2 900 900;body 0 900 -900 flip 3");
                for (int dx = from; dx < from + 52; dx++) {
                    p.ask("place", 1, dx, dy);
                    p.ask("common", 0, 1);
                    p.ask("common", 1, 0);
                    p.ask("meet", 0, 1, 0);
                    p.ask("meet", 1, 0, 1);
                    p.ask("touching", 1);
                    p.ask("at", dx + 65, dy + 2);
                    p.ask("flip", 1, (dx & 3));
                }
                p.ask("gap", 1, 2, 3);
                p.ask("slope", 0, 1, 0);
                p.ask("slope", 1, 0, 1);
            }
        }
    }

    private static void joinedEverywhere() {
        for (int how = 0; how <= 3; how++) {
            for (int from = -99; from <= 99; from += 33) {
                Pair p = patterns("");
                for (int dx = from; dx < Math.min(from + 33, 100); dx++) {
                    p.tryAct("join", 0, 0, dx, (dx % 5), how);
                    p.tryAct("join", 2, 0, dx, (dx % 7) - 3, how);
                    p.tryAct("join", 0, 2, dx, 17 + dx % 20, how);
                }
            }
        }
    }

    private static void grownAndThinned() {
        Pair p = patterns(";body 0 0 0;body 2 3 3");
        for (int mask = 0; mask < 3; mask++) {
            p.tryAct("grow", mask);
            p.tryAct("thin", mask);
            p.ask("grow", mask);
            p.ask("digest");
            p.tryAct("grow", mask);
            p.tryAct("thin", mask);
            p.ask("mask", mask, 9);
            p.ask("common", 0, 1);
        }
        // One dot in every column, in the first, the second and the last row.
        for (int y : new int[] {0, 1, 2}) {
            for (int from = 0; from < 100; from += 25) {
                Pair one = new Pair(due, "mask " + ".".repeat(100) + "/" + ".".repeat(100) + "/" + ".".repeat(100) + ";mask box 100 3");
                for (int x = from; x < from + 25; x++) {
                    one.ask("turn", 0, x, y);
                    one.tryAct("grow", 0);
                    one.ask("mask", 0, 9);
                    one.ask("turn", 0, x, y);
                    one.ask("turn", 1, x, y);
                    one.tryAct("thin", 1);
                    one.ask("mask", 1, 9);
                    one.ask("turn", 1, x, y);
                }
            }
        }
    }

    private static void cropped() {
        for (int left : CUTS) {
            for (int right : CUTS) {
                if (left <= right) {
                    Pair p = new Pair(due, "mask box 100 7;mask frame 100 7;body 0 5 6;body 0 -5 -6 flip 3;body 1 0 0");
                    p.ask("join", 0, 0, 0, 0, 3);
                    p.ask("turn", 0, left - 1, 4);
                    p.ask("turn", 0, right - 1, 2);
                    p.ask("turn", 0, (left + right) / 2 - 1, 3);
                    p.ask("crop", 0);
                    for (int what = 0; what <= 9; what++) {
                        p.ask("mask", 0, what);
                    }
                    p.ask("digest");
                    p.ask("count", 2);
                    p.ask("common", 0, 2);
                    p.ask("touching", 1);
                    p.ask("sieve", 1);
                    p.ask("undo");
                    p.ask("digest");
                    p.ask("common", 0, 2);
                    p.ask("sieve", 1);
                }
            }
        }
    }

    private static void questions() {
        Pair p = patterns(";body 0 0 0;body 2 3 3;body 1 50 3 flip 2");
        for (int mask = 0; mask < 4; mask++) {
            for (int what = 0; what <= 9; what++) {
                p.ask("mask", mask, what);
            }
            for (int what = 0; what <= 2; what++) {
                p.ask("spread", mask, what);
                p.ask("dense", mask, 3, 4, what);
                p.ask("dense", mask, 7, 1, what);
                p.ask("dense", mask, 67, 5, what);
            }
            p.ask("share", mask);
            for (int k = -1; k < 20; k++) {
                p.ask("island", mask, k, Math.max(k, 0) % 5);
            }
            p.ask("shifts", mask, 2);
        }
        for (int what = 0; what <= 2; what++) {
            p.ask("best", 0, 1, what);
            p.ask("best", 1, 2, what);
            p.ask("apart", 0, 1, what);
            p.ask("apart", 2, 0, what);
        }
        p.ask("seen", 1, 2);
        Pair lines = patterns("");
        for (int k = 0; k <= 100; k++) {
            lines.ask("dots", 0, true, k);
            lines.ask("dots", 2, true, k);
            lines.ask("dots", 0, false, k);
            lines.ask("letter", 0, 40 * k);
        }
        // Rows that have dots in their second word alone, two at a time, as far apart as may be.
        for (int a : CUTS) {
            Pair two = new Pair(due, "mask frame 100 40;mask disk 0");
            two.ask("join", 0, 0, 0, 0, 3);
            two.ask("spread", 0, 2);
            for (int b : CUTS) {
                two.ask("turn", 0, a - 1, 39);
                two.ask("spread", 0, 0);
                two.ask("spread", 0, 2);
                two.ask("turn", 0, b - 1, 3);
                two.ask("spread", 0, 1);
                two.ask("spread", 0, 2);
                two.ask("island", 0, 1, 3);
                two.ask("island", 0, 2, 0);
                two.ask("turn", 0, a - 1, 39);
                two.ask("turn", 0, b - 1, 3);
            }
        }
        // A hole in each column.
        for (int from = 0; from < 100; from += 50) {
            Pair holes = new Pair(due, "mask box 100 4");
            for (int x = from; x < from + 50; x++) {
                holes.ask("turn", 0, x, 2);
                holes.ask("mask", 0, 8);
                holes.ask("mask", 0, 9);
                holes.ask("turn", 0, x, 1);
                holes.ask("mask", 0, 8);
                holes.ask("turn", 0, x, 1);
                holes.ask("turn", 0, x, 2);
            }
        }
    }

    private static void mirrored() {
        for (int w : CUTS) {
            Pair p = new Pair(due, "mask frame " + w + " 5;mask frame " + w + " 5;mask frame " + w + " 4;body 0 0 0;body 1 0 0");
            int[][] dots = {{0, 4}, {w - 1, 0}, {w / 2, 4}, {0, 2}, {w - 1, 4}};
            for (int[] d : dots) {
                p.ask("turn", 0, d[0], d[1]);
                p.ask("like", 0);
                p.ask("turn", 1, w - 1 - d[0], d[1]);
                for (int flip = 0; flip <= 3; flip++) {
                    p.ask("alike", 0, 1, flip);
                    p.ask("alike", 1, 0, flip);
                    p.ask("alike", 0, 2, flip);
                    p.ask("flip", 0, flip);
                    p.ask("common", 0, 1);
                    p.ask("meet", 0, 1, 0);
                }
            }
        }
    }

    private static void quartered() {
        for (int h : new int[] {1, 2, 39, 40}) {
            Pair p = new Pair(due, "mask frame 40 " + h + ";mask disk 9;body 0 0 0 flip 1;body 1 5 5");
            p.ask("join", 0, 1, 25, -5, 3);
            for (int turns = 0; turns < 4; turns++) {
                p.ask("quarter", 0);
                p.ask("digest");
                p.ask("mask", 0, 9);
                p.ask("common", 0, 1);
            }
        }
    }
}
