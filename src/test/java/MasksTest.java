/** Promises 22 to 24, 40 to 47 and 49: what masks are. */
public final class MasksTest {
    private static final Due due = new Due();

    public static void main(String[] args) {
        measures();
        islandsAndHoles();
        dotsAndRows();
        islandByIsland();
        shifting();
        mirrored();
        letters();
        densest();
        linesOfDots();
        spreads();
        shares();
        due.close();
    }

    private static void measures() {
        MaskTouch x = Due.field("mask ...../..#../..##./.....;mask .../...;mask box 100 40;mask #");
        int[] first = {5, 4, 3, 2, 1, 3, 2, 1, 0, 8};
        int[] empty = {3, 2, 0, -2, -2, -2, -2, 0, 0, 0};
        int[] full = {100, 40, 4000, 0, 0, 99, 39, 1, 0, 280};
        int[] one = {1, 1, 1, 0, 0, 0, 0, 1, 0, 4};
        for (int what = 0; what <= 9; what++) {
            due.is("mask " + what, x.mask(0, what), first[what]);
            due.is("mask without dots " + what, x.mask(1, what), empty[what]);
            due.is("mask at most " + what, x.mask(2, what), full[what]);
            due.is("mask at least " + what, x.mask(3, what), one[what]);
        }
        due.is("mask 10", x.mask(0, 10), -1);
        due.is("mask -1", x.mask(0, -1), -1);
        due.is("no mask", x.mask(4, 0), -1);
        due.is("mask -1 of masks", x.mask(-1, 0), -1);
        x.join(2, 2, 0, 0, 3);
        x.turn(2, 64, 5);
        x.turn(2, 70, 7);
        due.is("mask in the second word: least x", x.mask(2, 3), 64);
        due.is("mask in the second word: least y", x.mask(2, 4), 5);
        due.is("mask in the second word: greatest x", x.mask(2, 5), 70);
        due.is("mask in the second word: greatest y", x.mask(2, 6), 7);
        x.turn(2, 63, 6);
        x.turn(2, 70, 7);
        due.is("mask in both words: least x", x.mask(2, 3), 63);
        due.is("mask in both words: greatest x", x.mask(2, 5), 64);
        due.is("mask in both words: islands", x.mask(2, 7), 2);
        x.turn(2, 64, 6);
        due.is("mask over the words: islands", x.mask(2, 7), 1);
        due.is("mask over the words: edge", x.mask(2, 9), 8);
    }

    private static void islandsAndHoles() {
        String[] texts = {"#.#/.#./#.#", "###/#.#/###", "####/#..#/##.#/####", "#####/#.#.#/#####", "##./#.#/###",
            "#.#/#.#/###", ".#./#.#/.#.", "#####/#.###/##.##/#####"};
        int[] islands = {5, 1, 1, 1, 1, 1, 4, 1};
        int[] holes = {0, 1, 1, 2, 1, 0, 1, 2};
        for (int i = 0; i < texts.length; i++) {
            MaskTouch x = Due.field("mask " + texts[i]);
            due.is("islands of " + texts[i], x.mask(0, 7), islands[i]);
            due.is("holes of " + texts[i], x.mask(0, 8), holes[i]);
        }
        MaskTouch x = Due.field("mask frame 100 40;mask frame 98 38;mask box 100 40");
        due.is("a large hole", x.mask(0, 8), 1);
        x.join(0, 1, 1, 1, 0);
        due.is("two frames: edge", x.mask(0, 9), 2 * (100 + 40) + 2 * (96 + 36));
        for (int y = 1; y < 40; y += 2) {
            for (int c = 1; c < 99; c += 2) {
                if (x.mask(2, 2) > 3990) {
                    x.turn(2, c, y);
                }
            }
        }
        due.is("ten holes", x.mask(2, 8), 10);
    }

    private static void dotsAndRows() {
        MaskTouch x = Due.field("mask #.#/.#.;mask box 100 40");
        due.is("dot", x.dot(0, 2, 0), 1);
        due.is("no dot", x.dot(0, 1, 0), 0);
        due.is("dot below", x.dot(0, 1, 1), 1);
        due.is("dot x beyond", x.dot(0, 3, 0), 0);
        due.is("dot x -1", x.dot(0, -1, 0), 0);
        due.is("dot y beyond", x.dot(0, 0, 2), 0);
        due.is("dot y -1", x.dot(0, 0, -1), 0);
        due.is("dot far beyond", x.dot(0, Integer.MAX_VALUE, Integer.MIN_VALUE), 0);
        due.is("dot of no mask", x.dot(2, 0, 0), -1);
        due.is("dot of mask -1", x.dot(-1, 0, 0), -1);
        due.is("row", x.row(0, 0, 0), 5);
        due.is("row 1", x.row(0, 1, 0), 2);
        due.is("row, word 1", x.row(0, 0, 1), 0);
        due.is("row 2", x.row(0, 2, 0), 0);
        due.is("row -1", x.row(0, -1, 0), 0);
        due.is("row of a wide one", x.row(1, 39, 0), -1L);
        due.is("row of a wide one, word 1", x.row(1, 39, 1), (1L << 36) - 1);
        due.is("row of a wide one, word 2", x.row(1, 39, 2), 0);
        due.is("row of a wide one, word -1", x.row(1, 39, -1), 0);
        due.is("row 40", x.row(1, 40, 0), 0);
        due.is("row of no mask", x.row(2, 0, 0), 0);
        due.is("row of mask -1", x.row(-1, 0, 0), 0);
    }

    private static void islandByIsland() {
        MaskTouch x = Due.field("mask ...#./##.#./...##/#....;mask ...;mask ..#/###");
        int[][] islands = {{4, 3, 0, 4, 2}, {2, 0, 1, 1, 1}, {1, 0, 3, 0, 3}};
        for (int k = 0; k < 3; k++) {
            for (int what = 0; what < 5; what++) {
                due.is("island " + k + " what " + what, x.island(0, k, what), islands[k][what]);
            }
        }
        due.is("islands", x.island(0, -1, 0), 3);
        due.is("island 3", x.island(0, 3, 0), -1);
        due.is("island -2", x.island(0, -2, 0), -1);
        due.is("islands what 1", x.island(0, -1, 1), -1);
        due.is("island what 5", x.island(0, 0, 5), -1);
        due.is("island what -1", x.island(0, 0, -1), -1);
        due.is("island of no mask", x.island(3, 0, 0), -1);
        due.is("islands of none", x.island(1, -1, 0), 0);
        due.is("island of none", x.island(1, 0, 0), -1);
        due.is("island whose first dot is not its least x", x.island(2, 0, 1), 0);
    }

    private static void shifting() {
        MaskTouch x = Due.field("mask ##/##;mask #;mask #.#;mask .;mask .#./###/.#.;mask box 100 40");
        due.is("shifts of one", x.shifts(1, 1), 1);
        due.is("shifts of boxes", x.shifts(0, 0), 9);
        due.is("shifts onto one", x.shifts(0, 1), 4);
        due.is("shifts with a gap", x.shifts(2, 2), 3);
        due.is("shifts of two", x.shifts(0, 2), 8);
        due.is("shifts turned round", x.shifts(2, 0), 8);
        due.is("shifts of crosses", x.shifts(4, 4), 13);
        due.is("shifts without dots", x.shifts(3, 0), 0);
        due.is("shifts onto none", x.shifts(0, 3), 0);
        due.is("shifts at most", x.shifts(5, 5), 199 * 79);
        due.is("shifts of no mask", x.shifts(6, 0), -1);
        due.is("shifts onto no mask", x.shifts(0, 6), -1);
        due.is("shifts of mask -1", x.shifts(-1, 0), -1);
    }

    private static void mirrored() {
        MaskTouch x = Due.field("mask ##./.##;mask #.#;mask ##.;mask ./#;mask .;mask ##./#..;mask .##/..#;mask .#/##");
        due.is("like turned half round", x.like(0), 9);
        due.is("like in all", x.like(1), 15);
        due.is("like in y", x.like(2), 5);
        due.is("like in x", x.like(3), 3);
        due.is("like without dots", x.like(4), 15);
        due.is("like in none", x.like(5), 1);
        due.is("like of no mask", x.like(8), -1);
        due.is("alike", x.alike(5, 6, 1), 1);
        due.is("alike back", x.alike(6, 5, 1), 1);
        due.is("not alike", x.alike(5, 6, 0), 0);
        due.is("not alike, 2", x.alike(5, 6, 2), 0);
        due.is("not alike, 3", x.alike(5, 6, 3), 0);
        due.is("alike with itself", x.alike(5, 5, 0), 1);
        due.is("itself flipped", x.alike(0, 0, 3), 1);
        due.is("itself flipped otherwise", x.alike(0, 0, 2), 0);
        due.is("alike of unlike sizes", x.alike(1, 2, 0), 0);
        due.is("alike of unlike sizes without dots", x.alike(4, 3, 0), 0);
        due.is("alike flip 4", x.alike(0, 0, 4), -1);
        due.is("alike flip -1", x.alike(0, 0, -1), -1);
        due.is("alike of no mask", x.alike(8, 0, 0), -1);
        due.is("alike with no mask", x.alike(0, 8, 0), -1);
        MaskTouch w = Due.field("mask box 99 2;mask box 99 2;mask box 3 33");
        w.turn(0, 0, 1);
        w.turn(1, 98, 0);
        due.is("wide ones alike", w.alike(0, 1, 3), 1);
        due.is("wide ones not alike", w.alike(0, 1, 1), 0);
        due.is("of one count, not of one size", w.alike(0, 2, 0), 0);
    }

    private static void letters() {
        MaskTouch x = Due.field("mask #./.#/##;mask #;mask box 100 40");
        String text = "#./.#/##";
        due.is("letters", x.letter(0, -1), text.length());
        for (int k = 0; k < text.length(); k++) {
            due.is("letter " + k, x.letter(0, k), text.charAt(k));
        }
        due.is("letter behind", x.letter(0, 8), -2);
        due.is("letter far behind", x.letter(0, Integer.MAX_VALUE), -2);
        due.is("letter -2", x.letter(0, -2), -1);
        due.is("letter of no mask", x.letter(3, -1), -1);
        due.is("letter of no mask, behind", x.letter(3, 99), -1);
        due.is("letters of one", x.letter(1, -1), 1);
        due.is("letters at most", x.letter(2, -1), 4039);
        due.is("letter at the last", x.letter(2, 4038), '#');
        due.is("letter at a row's end", x.letter(2, 100), '/');
    }

    private static void densest() {
        MaskTouch x = Due.field("mask #..../...##/#..##;mask ...;mask box 100 40");
        due.is("dense", x.dense(0, 2, 2, 0), 4);
        due.is("dense: x", x.dense(0, 2, 2, 1), 3);
        due.is("dense: y", x.dense(0, 2, 2, 2), 1);
        due.is("dense of one: x", x.dense(0, 1, 1, 1), 0);
        due.is("dense of one: y", x.dense(0, 1, 1, 2), 0);
        due.is("dense 3 by 2: x", x.dense(0, 3, 2, 1), 2);
        due.is("dense of all", x.dense(0, 5, 3, 0), 6);
        due.is("dense of rows", x.dense(0, 5, 1, 0), 3);
        due.is("dense of rows: y", x.dense(0, 5, 1, 2), 2);
        due.is("dense of columns: x", x.dense(0, 1, 3, 1), 0);
        due.is("dense without dots", x.dense(1, 2, 1, 0), 0);
        due.is("dense without dots: x", x.dense(1, 2, 1, 1), 0);
        due.is("dense w 6", x.dense(0, 6, 1, 0), -1);
        due.is("dense w 0", x.dense(0, 0, 1, 0), -1);
        due.is("dense h 4", x.dense(0, 1, 4, 0), -1);
        due.is("dense h 0", x.dense(0, 1, 0, 0), -1);
        due.is("dense what 3", x.dense(0, 1, 1, 3), -1);
        due.is("dense what -1", x.dense(0, 1, 1, -1), -1);
        due.is("dense of no mask", x.dense(3, 1, 1, 0), -1);
        x.turn(2, 10, 0);
        due.is("dense at most", x.dense(2, 90, 40, 0), 3599);
        due.is("dense at most: x", x.dense(2, 90, 40, 1), 0);
        due.is("dense past the gap", x.dense(2, 89, 40, 1), 11);
        due.is("dense below the gap", x.dense(2, 100, 39, 2), 1);
    }

    private static void linesOfDots() {
        MaskTouch x = Due.field("mask ##.#/#...;mask box 100 40");
        due.is("dots of row 0", x.dots(0, false, 0), 3);
        due.is("dots of row 1", x.dots(0, false, 1), 1);
        due.is("dots of column 0", x.dots(0, true, 0), 2);
        due.is("dots of column 2", x.dots(0, true, 2), 0);
        due.is("dots of column 3", x.dots(0, true, 3), 1);
        due.is("dots of row 2", x.dots(0, false, 2), -1);
        due.is("dots of column 4", x.dots(0, true, 4), -1);
        due.is("dots of row -1", x.dots(0, false, -1), -1);
        due.is("dots of column -1", x.dots(0, true, -1), -1);
        due.is("dots of no mask", x.dots(2, false, 0), -1);
        due.is("dots of a wide row", x.dots(1, false, 39), 100);
        due.is("dots of the last column", x.dots(1, true, 99), 40);
        due.is("dots of column 64", x.dots(1, true, 64), 40);
        due.is("dots of row 40", x.dots(1, false, 40), -1);
    }

    private static void spreads() {
        MaskTouch x = Due.field("mask #..#/..../.#..;mask ..;mask .#;mask box 100 40;mask ..#/.#./#..");
        due.is("spread x", x.spread(0, 0), 4);
        due.is("spread y", x.spread(0, 1), 2);
        due.is("spread", x.spread(0, 2), 4);
        due.is("spread of none", x.spread(1, 2), 0);
        due.is("spread of none: x", x.spread(1, 0), 0);
        due.is("spread of one", x.spread(2, 2), 0);
        due.is("spread of one: x", x.spread(2, 0), 1);
        due.is("spread at most: x", x.spread(3, 0), 4950 * 40);
        due.is("spread at most: y", x.spread(3, 1), 780 * 100);
        due.is("spread at most", x.spread(3, 2), 138);
        due.is("spread upwards", x.spread(4, 2), 4);
        due.is("spread what 3", x.spread(0, 3), -1);
        due.is("spread what -1", x.spread(0, -1), -1);
        due.is("spread of no mask", x.spread(5, 0), -1);
    }

    private static void shares() {
        MaskTouch x = Due.field("mask #./..;mask ..;mask ##;mask ###.;mask #..;mask ##.");
        due.is("share", x.share(0), Double.doubleToLongBits(0.25));
        due.is("share of none", x.share(1), 0);
        due.is("share of all", x.share(2), Double.doubleToLongBits(1.0));
        due.is("share 3/4", x.share(3), Double.doubleToLongBits(0.75));
        due.is("share 1/3", x.share(4), Double.doubleToLongBits(1.0 / 3));
        due.is("share 2/3", x.share(5), Double.doubleToLongBits(2.0 / 3));
        due.is("share of no mask", x.share(6), -1);
        due.is("share of mask -1", x.share(-1), -1);
        int[][] sizes = {{100, 40}, {99, 37}, {97, 39}, {7, 7}, {49, 1}, {93, 31}};
        for (int[] size : sizes) {
            int places = size[0] * size[1];
            MaskTouch y = Due.field("mask box " + size[0] + " " + size[1]);
            for (int left = places; left > 0; left--) {
                due.is("share " + left + "/" + places, y.share(0), Double.doubleToLongBits((double) left / places));
                y.turn(0, (left - 1) % size[0], (left - 1) / size[0]);
            }
        }
    }
}
