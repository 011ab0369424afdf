/** Boundary cases of promises 22 to 24, 40 to 47 and 49 and of ISLANDS, HOLES, EDGE ("Terms"). */
public final class EdgeMasksTest {
    private static final Due due = new Due();
    private static final Edge edge = new Edge(due);

    /** The least mask without and with a dot, the largest one, and a small one of no symmetry. */
    private static final String FOUR = "mask .;mask #;mask box 100 40;mask ##./#..;body 3 5 5";

    public static void main(String[] args) {
        maskWhat();
        maskEnds();
        islands();
        holes();
        edges();
        dot();
        row();
        islandByIsland();
        islandsAtMost();
        shifts();
        like();
        letter();
        dense();
        dots();
        spread();
        share();
        alike();
        nothingThere();
        due.close();
    }

    private static void maskWhat() {
        int[][] want = {{1, 1, 0, -2, -2, -2, -2, 0, 0, 0}, {1, 1, 1, 0, 0, 0, 0, 1, 0, 4},
            {100, 40, 4000, 0, 0, 99, 39, 1, 0, 280}, {3, 2, 3, 0, 0, 1, 1, 1, 0, 8}};
        for (int mask = 0; mask < 4; mask++) {
            for (int what = 0; what <= 9; what++) {
                int m = mask;
                int w = what;
                edge.still(FOUR, "mask " + m + " what " + w, x -> x.mask(m, w), want[m][w]);
            }
        }
        edge.still(FOUR, "mask what -1", x -> x.mask(0, -1), -1);
        edge.still(FOUR, "mask what 10", x -> x.mask(0, 10), -1);
        edge.still(FOUR, "mask -1", x -> x.mask(-1, 0), -1);
        edge.still(FOUR, "mask 4", x -> x.mask(4, 0), -1);
        // NONE ahead of -2: a mask without dots, and no such number.
        edge.still("mask .", "mask without dots, what 10", x -> x.mask(0, 10), -1);
        edge.still("mask .", "no mask, what 3", x -> x.mask(1, 3), -1);
    }

    private static void maskEnds() {
        int[] places = {0, 1, 62, 63, 64, 65, 98, 99};
        for (int from : places) {
            for (int to : places) {
                if (from <= to) {
                    char[] signs = ".".repeat(100).toCharArray();
                    signs[from] = '#';
                    signs[to] = '#';
                    MaskTouch x = Due.field("mask " + new String(signs));
                    due.is("least x of " + from + " to " + to, x.mask(0, 3), from);
                    due.is("greatest x of " + from + " to " + to, x.mask(0, 5), to);
                    due.is("dots of " + from + " to " + to, x.mask(0, 2), from == to ? 1 : 2);
                }
            }
        }
        for (int y : new int[] {0, 1, 38, 39}) {
            MaskTouch x = Due.field("mask " + "./".repeat(39) + ".");
            x.turn(0, 0, y);
            due.is("least y " + y, x.mask(0, 4), y);
            due.is("greatest y " + y, x.mask(0, 6), y);
            x.turn(0, 0, y);
            due.is("least y of none", x.mask(0, 4), -2);
            due.is("greatest y of none", x.mask(0, 6), -2);
        }
    }

    private static void islands() {
        String[] forms = {".", "#", "#.", "##", "#.#", "#/#", "#/./#", "#./.#", ".#/#.", "##/.#", "#.#/###", "#.#/.#./#.#",
            "###/#.#/###", ".".repeat(63) + "##" + ".".repeat(35), ".".repeat(63) + "#.#" + ".".repeat(34),
            "#.".repeat(50), "#/./".repeat(18) + "#/."};
        int[] want = {0, 1, 1, 1, 2, 1, 2, 2, 2, 1, 1, 5, 1, 1, 2, 50, 19};
        for (int i = 0; i < forms.length; i++) {
            int number = want[i];
            edge.still("mask " + forms[i], "islands", x -> x.mask(0, 7), number);
            edge.still("mask " + forms[i], "islands told", x -> x.island(0, -1, 0), number);
        }
    }

    private static void holes() {
        // One comes out over a side, not over a corner.
        String[] forms = {".", "#", "...", "###/#.#/###", "###/#.#/#.#", "###/#../###", "#.#/#.#/###", "###/..#/###",
            ".#./#.#/.#.", "##./#.#/.##", "####/#..#/####", "####/#.##/##.#/####", "#####/#.#.#/#####", "##/##",
            "#####/#...#/#.#.#/#...#/#####", "....#/.##.#/.#.##/.###.", "frame 100 40", "frame 2 40", "frame 3 3",
            "frame 100 3", "box 100 40"};
        int[] want = {0, 0, 0, 1, 0, 0, 0, 0, 1, 1, 1, 2, 2, 0, 1, 1, 1, 0, 1, 1, 0};
        for (int i = 0; i < forms.length; i++) {
            int number = want[i];
            edge.still("mask " + forms[i], "holes", x -> x.mask(0, 8), number);
        }
        // The most holes there can be side by side in the largest mask: one in each second place.
        MaskTouch x = Due.field("mask " + "#".repeat(99) + "/" + "#.".repeat(49) + "#/" + "#".repeat(99));
        due.is("49 holes", x.mask(0, 8), 49);
        x.turn(0, 63, 0);
        due.is("48 holes", x.mask(0, 8), 48);
    }

    private static void edges() {
        String[] forms = {".", "#", "##", "#.#", "##/##", "#./.#", "###/#.#/###", "#".repeat(64), "#".repeat(65),
            ".".repeat(63) + "##", ".".repeat(63) + "#.", "box 100 40", "box 64 2", "#" + "/#".repeat(39)};
        int[] want = {0, 4, 6, 8, 8, 8, 16, 130, 132, 6, 4, 280, 132, 82};
        for (int i = 0; i < forms.length; i++) {
            int number = want[i];
            edge.still("mask " + forms[i], "edge", x -> x.mask(0, 9), number);
        }
    }

    private static void dot() {
        int[][] beyond = {{-1, 0}, {0, -1}, {100, 0}, {0, 40}, {-1, -1}, {100, 40}, {127, 0}, {128, 0}, {0, 64}};
        for (int[] p : beyond) {
            edge.still(FOUR, "dot " + p[0] + ", " + p[1], x -> x.dot(2, p[0], p[1]), 0);
        }
        int[][] within = {{0, 0}, {99, 0}, {0, 39}, {99, 39}, {63, 0}, {64, 0}};
        for (int[] p : within) {
            edge.still(FOUR, "dot " + p[0] + ", " + p[1], x -> x.dot(2, p[0], p[1]), 1);
        }
        edge.still(FOUR, "dot of one without", x -> x.dot(0, 0, 0), 0);
        edge.still(FOUR, "dot of the last mask", x -> x.dot(3, 1, 0), 1);
        edge.still(FOUR, "no dot of the last mask", x -> x.dot(3, 2, 0), 0);
        edge.still(FOUR, "dot beyond the last mask", x -> x.dot(3, 3, 0), 0);
        edge.still(FOUR, "dot of mask -1", x -> x.dot(-1, 0, 0), -1);
        edge.still(FOUR, "dot of mask 4", x -> x.dot(4, 0, 0), -1);
        edge.still(FOUR, "dot beyond mask 4", x -> x.dot(4, -1, 0), -1);
    }

    private static void row() {
        edge.still(FOUR, "row -1", x -> x.row(2, -1, 0), 0);
        edge.still(FOUR, "row 0", x -> x.row(2, 0, 0), -1L);
        edge.still(FOUR, "row 39", x -> x.row(2, 39, 0), -1L);
        edge.still(FOUR, "row 40", x -> x.row(2, 40, 0), 0);
        edge.still(FOUR, "row 39, word 1", x -> x.row(2, 39, 1), (1L << 36) - 1);
        edge.still(FOUR, "row 40, word 1", x -> x.row(2, 40, 1), 0);
        edge.still(FOUR, "row 0, word -1", x -> x.row(2, 0, -1), 0);
        edge.still(FOUR, "row 1, word -1", x -> x.row(2, 1, -1), 0);
        edge.still(FOUR, "row 0, word 2", x -> x.row(2, 0, 2), 0);
        edge.still(FOUR, "row of mask -1", x -> x.row(-1, 0, 0), 0);
        edge.still(FOUR, "row of mask 4", x -> x.row(4, 0, 0), 0);
        edge.still(FOUR, "row 1 of the last mask", x -> x.row(3, 1, 0), 1);
        edge.still(FOUR, "row 2 of the last mask", x -> x.row(3, 2, 0), 0);
        for (int at : new int[] {0, 1, 62, 63, 64, 65, 98, 99}) {
            MaskTouch x = Due.field("mask " + ".".repeat(at) + "#" + ".".repeat(99 - at));
            due.is("row of a dot at " + at, x.row(0, 0, at / 64), 1L << (at % 64));
            due.is("row of a dot at " + at + ", the other word", x.row(0, 0, 1 - at / 64), 0);
        }
        // A row that a higher mask has left behind is none of a lower one.
        MaskTouch x = Due.field("mask box 100 40");
        Due.tell(x, "mask ##/##");
        due.is("row 2 behind a larger one", x.row(0, 2, 0), 0);
        due.is("row 0, word 1 behind a larger one", x.row(0, 0, 1), 0);
    }

    private static void islandByIsland() {
        String field = "mask ..#.#/.##../#...#;mask ...;mask #";
        int[][] want = {{3, 1, 0, 2, 1}, {1, 4, 0, 4, 0}, {1, 0, 2, 0, 2}, {1, 4, 2, 4, 2}};
        for (int k = 0; k < 4; k++) {
            for (int what = 0; what <= 4; what++) {
                int number = k;
                int w = what;
                edge.still(field, "island " + k + " what " + what, x -> x.island(0, number, w), want[k][w]);
            }
        }
        edge.still(field, "island 4", x -> x.island(0, 4, 0), -1);
        edge.still(field, "islands", x -> x.island(0, -1, 0), 4);
        for (int what : new int[] {-1, 1, 2, 3, 4, 5}) {
            edge.still(field, "islands what " + what, x -> x.island(0, -1, what), -1);
        }
        edge.still(field, "island -2", x -> x.island(0, -2, 0), -1);
        edge.still(field, "island what -1", x -> x.island(0, 0, -1), -1);
        edge.still(field, "island what 5", x -> x.island(0, 0, 5), -1);
        edge.still(field, "island of mask -1", x -> x.island(-1, 0, 0), -1);
        edge.still(field, "island of mask 3", x -> x.island(3, 0, 0), -1);
        edge.still(field, "islands of mask 3", x -> x.island(3, -1, 0), -1);
        edge.still(field, "islands of none", x -> x.island(1, -1, 0), 0);
        edge.still(field, "island 0 of none", x -> x.island(1, 0, 0), -1);
        edge.still(field, "island 0 of the one dot", x -> x.island(2, 0, 0), 1);
        edge.still(field, "island 1 of the one dot", x -> x.island(2, 1, 0), -1);
        // By its first dot: the least y, then the least x; not by its least x.
        MaskTouch x = Due.field("mask .#.#/.#.#/##.#");
        due.is("island by its first dot", x.island(0, 0, 1), 0);
        due.is("island by its first dot: the next", x.island(0, 1, 1), 3);
        MaskTouch hook = Due.field("mask ...#/##.#/...#/####");
        due.is("island of the least y", hook.island(0, 0, 0), 7);
        due.is("island of the least y: the next", hook.island(0, 1, 0), 2);
        MaskTouch tall = Due.field("mask #" + "/.".repeat(39) + ";mask " + "./".repeat(39) + "#");
        due.is("island of 40 rows, in the first", tall.island(0, 0, 4), 0);
        due.is("island of 40 rows, in the last", tall.island(1, 0, 2), 39);
        due.is("no second island of 40 rows", tall.island(0, 1, 0), -1);
        due.is("no second island of 40 rows, in the last", tall.island(1, 1, 0), -1);
        due.is("no island 40 of 40 rows", tall.island(0, 40, 0), -1);
        int[] full = {4000, 0, 0, 99, 39};
        for (int what = 0; what <= 4; what++) {
            due.is("island of the largest, what " + what, Due.field("mask box 100 40").island(0, 0, what), full[what]);
        }
    }

    private static void islandsAtMost() {
        // Each second place, as of a board: the most islands that rows of 38 and 9 of them can have.
        String board = ("#.".repeat(19) + "/" + ".#".repeat(19) + "/").repeat(4) + "#.".repeat(19);
        MaskTouch x = Due.field("mask " + board);
        due.is("islands of a board", x.mask(0, 7), 19 * 9);
        due.is("the last island of a board", x.island(0, 19 * 9 - 1, 3), 36);
        due.is("the last island of a board: y", x.island(0, 19 * 9 - 1, 2), 8);
        due.is("behind the last island of a board", x.island(0, 19 * 9, 0), -1);
        // A snail whose one island goes round and round.
        MaskTouch snail = Due.field("mask #######/......#/#####.#/#...#.#/#.###.#/#.....#/#######");
        due.is("islands of a snail", snail.mask(0, 7), 1);
        due.is("holes of a snail", snail.mask(0, 8), 0);
    }

    private static void shifts() {
        String field = "mask .;mask #;mask ##;mask #.#;mask .../.#./...;mask box 100 40";
        int[][] want = {{0, 0, 0}, {0, 1, 0}, {1, 0, 0}, {1, 1, 1}, {1, 2, 2}, {2, 1, 2}, {2, 2, 3}, {3, 3, 3}, {2, 3, 4},
            {3, 2, 4}, {4, 4, 1}, {4, 1, 1}, {5, 5, 199 * 79}, {5, 1, 4000}, {1, 5, 4000}, {5, 0, 0}};
        for (int[] w : want) {
            edge.still(field, "shifts " + w[0] + " " + w[1], x -> x.shifts(w[0], w[1]), w[2]);
        }
        edge.still(field, "shifts of mask -1", x -> x.shifts(-1, 0), -1);
        edge.still(field, "shifts on mask -1", x -> x.shifts(0, -1), -1);
        edge.still(field, "shifts of mask 6", x -> x.shifts(6, 0), -1);
        edge.still(field, "shifts on mask 6", x -> x.shifts(0, 6), -1);
        // Dots that lie 99 apart, and 39: at three places each, in both ways.
        edge.still("mask #" + ".".repeat(98) + "#", "shifts of ends", x -> x.shifts(0, 0), 3);
        edge.still("mask #" + "/.".repeat(38) + "/#", "shifts of tall ends", x -> x.shifts(0, 0), 3);
    }

    private static void like() {
        String[] forms = {".", "#", "##", "#.", "#/.", "##/#.", "#./.#", ".#/#.", "#.#/...", "#" + ".".repeat(62) + "#",
            "#" + ".".repeat(63) + "#", "#" + ".".repeat(98) + "#", "#" + ".".repeat(99), "#" + ".".repeat(63), "box 100 40"};
        int[] want = {15, 15, 15, 5, 3, 1, 9, 9, 3, 15, 15, 15, 5, 5, 15};
        for (int i = 0; i < forms.length; i++) {
            int bits = want[i];
            edge.still("mask " + forms[i], "like", x -> x.like(0), bits);
        }
        // What makes it unlike is in its last row, and its last place.
        edge.still("mask ###/###/###/###/##.", "like but for the last place", x -> x.like(0), 1);
        edge.still("mask .##/###/###/###/##.", "like turned half round", x -> x.like(0), 9);
        edge.still("mask ###/###/###/#.#/##.", "like but for two of the last", x -> x.like(0), 1);
        edge.still("mask #./#./#./#./.#/.#/.#/.#", "like turned half round, eight rows", x -> x.like(0), 9);
        edge.still("mask #./#./#./#./#./#./#./.#", "like not, by the last of eight rows", x -> x.like(0), 1);
        edge.still(FOUR, "like of the last mask", x -> x.like(3), 1);
        edge.still(FOUR, "like of mask -1", x -> x.like(-1), -1);
        edge.still(FOUR, "like of mask 4", x -> x.like(4), -1);
    }

    private static void letter() {
        String rows = "##./#..";
        for (int k = 0; k < rows.length(); k++) {
            int number = k;
            edge.still(FOUR, "letter " + k, x -> x.letter(3, number), rows.charAt(k));
        }
        edge.still(FOUR, "letters", x -> x.letter(3, -1), 7);
        edge.still(FOUR, "letter 7", x -> x.letter(3, 7), -2);
        edge.still(FOUR, "letter -2", x -> x.letter(3, -2), -1);
        edge.still(FOUR, "letters of the least", x -> x.letter(0, -1), 1);
        edge.still(FOUR, "letter 0 of the least", x -> x.letter(0, 0), '.');
        edge.still(FOUR, "letter 1 of the least", x -> x.letter(0, 1), -2);
        edge.still(FOUR, "letters of the largest", x -> x.letter(2, -1), 40 * 100 + 39);
        edge.still(FOUR, "letter 99 of the largest", x -> x.letter(2, 99), '#');
        edge.still(FOUR, "letter 100 of the largest", x -> x.letter(2, 100), '/');
        edge.still(FOUR, "letter 101 of the largest", x -> x.letter(2, 101), '#');
        edge.still(FOUR, "letter 4038 of the largest", x -> x.letter(2, 4038), '#');
        edge.still(FOUR, "letter 4039 of the largest", x -> x.letter(2, 4039), -2);
        edge.still(FOUR, "letters of mask -1", x -> x.letter(-1, -1), -1);
        edge.still(FOUR, "letters of mask 4", x -> x.letter(4, -1), -1);
        edge.still(FOUR, "letter 9999 of mask 4", x -> x.letter(4, 9999), -1);
        // Its bytes tell the same mask.
        MaskTouch x = Due.field("mask #.#/.##;mask .");
        StringBuilder text = new StringBuilder("mask ");
        for (int k = 0; k < x.letter(0, -1); k++) {
            text.append((char) x.letter(0, k));
        }
        due.is("letters tell it again", Due.field(text + ";mask .").digest(), x.digest());
    }

    private static void dense() {
        String field = "mask .#.../#.##./...##;mask ...;mask box 100 40;mask #";
        int[][] want = {{1, 1, 1, 1, 0}, {2, 1, 2, 2, 1}, {2, 2, 3, 2, 1}, {3, 2, 4, 2, 1}, {5, 3, 6, 0, 0}, {5, 1, 3, 0, 1},
            {1, 3, 2, 3, 0}, {4, 3, 5, 0, 0}, {5, 2, 5, 0, 1}};
        for (int[] w : want) {
            for (int what = 0; what <= 2; what++) {
                int n = what;
                edge.still(field, "dense " + w[0] + " by " + w[1] + " what " + n, x -> x.dense(0, w[0], w[1], n), w[2 + n]);
            }
        }
        int[][] refused = {{0, 1, 0}, {-1, 1, 0}, {6, 1, 0}, {1, 0, 0}, {1, -1, 0}, {1, 4, 0}, {1, 1, -1}, {1, 1, 3}, {0, 0, 0}};
        for (int[] r : refused) {
            edge.still(field, "dense " + r[0] + " by " + r[1] + " what " + r[2], x -> x.dense(0, r[0], r[1], r[2]), -1);
        }
        edge.still(field, "dense without dots", x -> x.dense(1, 2, 1, 0), 0);
        edge.still(field, "dense without dots: x", x -> x.dense(1, 2, 1, 1), 0);
        edge.still(field, "dense without dots: y", x -> x.dense(1, 2, 1, 2), 0);
        edge.still(field, "dense of the largest", x -> x.dense(2, 100, 40, 0), 4000);
        edge.still(field, "dense of 64", x -> x.dense(2, 64, 1, 0), 64);
        edge.still(field, "dense of 65", x -> x.dense(2, 65, 1, 0), 65);
        edge.still(field, "dense w 101", x -> x.dense(2, 101, 40, 0), -1);
        edge.still(field, "dense h 41", x -> x.dense(2, 100, 41, 0), -1);
        edge.still(field, "dense of the one dot", x -> x.dense(3, 1, 1, 0), 1);
        edge.still(field, "dense w 2 of the one dot", x -> x.dense(3, 2, 1, 0), -1);
        edge.still(field, "dense h 2 of the one dot", x -> x.dense(3, 1, 2, 0), -1);
        edge.still(field, "dense of mask -1", x -> x.dense(-1, 1, 1, 0), -1);
        edge.still(field, "dense of mask 4", x -> x.dense(4, 1, 1, 0), -1);
        for (int at : new int[] {0, 63, 64, 99}) {
            MaskTouch x = Due.field("mask " + ".".repeat(at) + "#" + ".".repeat(99 - at));
            due.is("dense of one at " + at, x.dense(0, 1, 1, 1), at);
            due.is("dense of two at " + at, x.dense(0, 2, 1, 1), Math.max(0, at - 1));
            due.is("dense of 99 at " + at, x.dense(0, 99, 1, 1), at == 99 ? 1 : 0);
        }
    }

    private static void dots() {
        String field = "mask ##.#/#...;mask box 100 40;mask .";
        int[] rows = {3, 1};
        int[] columns = {2, 1, 0, 1};
        for (int k = 0; k < 2; k++) {
            int n = k;
            edge.still(field, "dots of row " + k, x -> x.dots(0, false, n), rows[n]);
        }
        for (int k = 0; k < 4; k++) {
            int n = k;
            edge.still(field, "dots of column " + k, x -> x.dots(0, true, n), columns[n]);
        }
        edge.still(field, "dots of row -1", x -> x.dots(0, false, -1), -1);
        edge.still(field, "dots of row 2", x -> x.dots(0, false, 2), -1);
        edge.still(field, "dots of column -1", x -> x.dots(0, true, -1), -1);
        edge.still(field, "dots of column 4", x -> x.dots(0, true, 4), -1);
        for (int k : new int[] {0, 39}) {
            edge.still(field, "dots of row " + k + " of the largest", x -> x.dots(1, false, k), 100);
        }
        for (int k : new int[] {0, 63, 64, 99}) {
            edge.still(field, "dots of column " + k + " of the largest", x -> x.dots(1, true, k), 40);
        }
        edge.still(field, "dots of row 40", x -> x.dots(1, false, 40), -1);
        edge.still(field, "dots of column 100", x -> x.dots(1, true, 100), -1);
        edge.still(field, "dots of row 0 of none", x -> x.dots(2, false, 0), 0);
        edge.still(field, "dots of row 1 of none", x -> x.dots(2, false, 1), -1);
        edge.still(field, "dots of mask -1", x -> x.dots(-1, false, 0), -1);
        edge.still(field, "dots of mask 3", x -> x.dots(3, true, 0), -1);
    }

    private static void spread() {
        String field = "mask .;mask #;mask box 100 40;mask .#/#.;mask #./.#;mask ...#;mask ././#";
        int[][] want = {{0, 0, 0}, {0, 0, 0}, {4950 * 40, 780 * 100, 138}, {1, 1, 2}, {1, 1, 2}, {3, 0, 0}, {0, 2, 0}};
        for (int mask = 0; mask < 7; mask++) {
            for (int what = 0; what <= 2; what++) {
                int m = mask;
                int w = what;
                edge.still(field, "spread " + m + " what " + w, x -> x.spread(m, w), want[m][w]);
            }
        }
        edge.still(field, "spread what -1", x -> x.spread(0, -1), -1);
        edge.still(field, "spread what 3", x -> x.spread(0, 3), -1);
        edge.still(field, "spread of mask -1", x -> x.spread(-1, 0), -1);
        edge.still(field, "spread of mask 7", x -> x.spread(7, 0), -1);
        edge.still("mask #" + ".".repeat(98) + "#", "spread of 100", x -> x.spread(0, 2), 99);
        edge.still("mask #" + "/.".repeat(38) + "/#", "spread of 40", x -> x.spread(0, 2), 39);
        edge.still("mask " + ".".repeat(99) + "#", "spread of the last place", x -> x.spread(0, 2), 0);
        edge.still("mask " + ".".repeat(98) + "##", "spread of the last two places", x -> x.spread(0, 2), 1);
        edge.still("mask " + "./".repeat(39) + "#", "spread of the lowest place", x -> x.spread(0, 2), 0);
        // The two that are farthest apart lie across, downwards or upwards.
        edge.still("mask #.../..#./...#", "spread downwards", x -> x.spread(0, 2), 5);
        edge.still("mask ...#/.#../#...", "spread upwards", x -> x.spread(0, 2), 5);
        edge.still("mask ..#../#...#/..#..", "spread of four", x -> x.spread(0, 2), 4);
    }

    private static void share() {
        edge.still(FOUR, "share of none", x -> x.share(0), 0);
        edge.still(FOUR, "share of all", x -> x.share(1), Double.doubleToLongBits(1.0));
        edge.still(FOUR, "share of all of the largest", x -> x.share(2), Double.doubleToLongBits(1.0));
        edge.still(FOUR, "share of a half", x -> x.share(3), Double.doubleToLongBits(0.5));
        edge.still(FOUR, "share of mask -1", x -> x.share(-1), -1);
        edge.still(FOUR, "share of mask 4", x -> x.share(4), -1);
        MaskTouch x = Due.field("mask box 100 40;mask box 100 40");
        x.turn(0, 99, 39);
        due.is("share of all but one", x.share(0), Double.doubleToLongBits(3999.0 / 4000));
        x.join(1, 1, 0, 0, 3);
        due.is("share of none of the largest", x.share(1), 0);
        x.turn(1, 0, 0);
        due.is("share of one of the most", x.share(1), Double.doubleToLongBits(1.0 / 4000));
        // Every share that a mask of one row can have.
        for (int w = 1; w <= 100; w++) {
            for (int n = 0; n <= w; n++) {
                due.is("share " + n + "/" + w, Due.field("mask " + "#".repeat(n) + ".".repeat(w - n)).share(0),
                    Double.doubleToLongBits((double) n / w));
            }
        }
    }

    private static void alike() {
        String field = "mask ##./#..;mask .##/..#;mask #../##.;mask ..#/.##;mask ##/#./..;mask ##./#.#";
        // The other one with a FLIP is as the first one: 1 is 0 turned in x, 2 in y, 3 in both.
        for (int other = 0; other <= 3; other++) {
            for (int flip = 0; flip <= 3; flip++) {
                int o = other;
                int f = flip;
                edge.still(field, "alike 0 " + o + " flip " + f, x -> x.alike(0, o, f), o == f ? 1 : 0);
                edge.still(field, "alike " + o + " 0 flip " + f, x -> x.alike(o, 0, f), o == f ? 1 : 0);
            }
        }
        edge.still(field, "alike of other sizes", x -> x.alike(0, 4, 0), 0);
        edge.still(field, "alike but for a dot", x -> x.alike(0, 5, 0), 0);
        edge.still(field, "alike with itself", x -> x.alike(5, 5, 0), 1);
        edge.still(field, "alike flip -1", x -> x.alike(0, 0, -1), -1);
        edge.still(field, "alike flip 4", x -> x.alike(0, 0, 4), -1);
        edge.still(field, "alike of mask -1", x -> x.alike(-1, 0, 0), -1);
        edge.still(field, "alike of mask 6", x -> x.alike(6, 0, 0), -1);
        edge.still(field, "alike with mask -1", x -> x.alike(0, -1, 0), -1);
        edge.still(field, "alike with mask 6", x -> x.alike(0, 6, 0), -1);
        edge.still("mask ##/##/##/##/#.;mask ##/##/##/##/.#", "alike but for the last row", x -> x.alike(0, 1, 0), 0);
        edge.still("mask ##/##/##/##/#.;mask ##/##/##/##/.#", "alike with the last row turned", x -> x.alike(0, 1, 1), 1);
        edge.still("mask .;mask ..", "alike without dots, of two widths", x -> x.alike(0, 1, 0), 0);
        edge.still("mask .;mask ./.", "alike without dots, of two heights", x -> x.alike(0, 1, 0), 0);
        edge.still("mask .;mask .", "alike without dots", x -> x.alike(0, 1, 3), 1);
        edge.still("mask #;mask #.", "alike of one dot, of two widths", x -> x.alike(0, 1, 0), 0);
        edge.still("mask #;mask #/.", "alike of one dot, of two heights", x -> x.alike(0, 1, 0), 0);
        String dot = "mask #" + ".".repeat(99) + ";mask " + ".".repeat(99) + "#";
        edge.still(dot, "alike of 100", x -> x.alike(0, 1, 1), 1);
        edge.still(dot, "not alike of 100", x -> x.alike(0, 1, 0), 0);
    }

    private static void nothingThere() {
        edge.still("", "mask", x -> x.mask(0, 0), -1);
        edge.still("", "dot", x -> x.dot(0, 0, 0), -1);
        edge.still("", "row", x -> x.row(0, 0, 0), 0);
        edge.still("", "island", x -> x.island(0, 0, 0), -1);
        edge.still("", "islands", x -> x.island(0, -1, 0), -1);
        edge.still("", "shifts", x -> x.shifts(0, 0), -1);
        edge.still("", "like", x -> x.like(0), -1);
        edge.still("", "letter", x -> x.letter(0, -1), -1);
        edge.still("", "dense", x -> x.dense(0, 1, 1, 0), -1);
        edge.still("", "dots", x -> x.dots(0, false, 0), -1);
        edge.still("", "spread", x -> x.spread(0, 0), -1);
        edge.still("", "share", x -> x.share(0), -1);
        edge.still("", "alike", x -> x.alike(0, 0, 0), -1);
    }
}
