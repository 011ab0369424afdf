/** Boundary cases of the acts, promises 5 to 18, and of SLIDE, WAY and TICK ("Terms"), sentence by sentence. */
public final class EdgeActsTest {
    private static final Due due = new Due();
    private static final Edge edge = new Edge(due);

    /** Two masks, two bodies far from one another. */
    private static final String TWO = "mask ##/##;mask #..;body 0 0 0;body 1 50 50";

    public static void main(String[] args) {
        place();
        flip();
        layers();
        speed();
        turn();
        growWithin();
        growNone();
        thinBeyondItsSides();
        thinNone();
        joinWithin();
        joinHow();
        joinTheSame();
        slideFar();
        slideToTheEnds();
        slideUpToBodies();
        slideWhatItTouchesAsItSetsOut();
        waysGoUpAtHalves();
        pushFar();
        pushToTheEnds();
        pushWhoGoes();
        fallsNone();
        fallsAgainAndAgain();
        cropNone();
        cropBeyond999();
        cropMoves();
        quarterUpTo40();
        ticksUpTo20();
        ticksStopped();
        ticksBodyByBody();
        noneAheadOfMinus2();
        nothingThere();
        due.close();
    }

    // ---- bodies

    private static void place() {
        edge.still(TWO, "place body -1", x -> x.place(-1, 5, 5), -1);
        edge.acts(TWO, "place body 0", x -> x.place(0, 5, 5), 1);
        edge.acts(TWO, "place body 1", x -> x.place(1, 5, 5), 1);
        edge.still(TWO, "place body 2", x -> x.place(2, 5, 5), -1);
        for (int n : new int[] {-999, -998, 998, 999}) {
            edge.acts(TWO, "place x " + n, x -> x.place(0, n, 5), 1);
            edge.acts(TWO, "place y " + n, x -> x.place(0, 5, n), 1);
            MaskTouch x = Due.field(TWO);
            x.place(0, n, -n);
            due.is("placed x " + n, x.body(0, 1), n);
            due.is("placed y " + -n, x.body(0, 2), -n);
        }
        for (int n : new int[] {-1000, 1000}) {
            edge.still(TWO, "place x " + n, x -> x.place(0, n, 5), -1);
            edge.still(TWO, "place y " + n, x -> x.place(0, 5, n), -1);
        }
        edge.still(TWO, "place where it is", x -> x.place(1, 50, 50), -2);
        edge.acts(TWO, "place one farther in x", x -> x.place(1, 51, 50), 1);
        edge.acts(TWO, "place one farther in y", x -> x.place(1, 50, 49), 1);
        edge.acts(TWO, "place where another one is", x -> x.place(1, 0, 0), 1);
    }

    private static void flip() {
        edge.still(TWO, "flip body -1", x -> x.flip(-1, 1), -1);
        edge.still(TWO, "flip body 2", x -> x.flip(2, 1), -1);
        edge.still(TWO, "flip to -1", x -> x.flip(0, -1), -1);
        edge.still(TWO, "flip to 4", x -> x.flip(0, 4), -1);
        for (int was = 0; was <= 3; was++) {
            String field = "mask #../...;body 0 0 0;body 0 9 9 flip " + was;
            for (int to = 0; to <= 3; to++) {
                int flip = to;
                if (to == was) {
                    edge.still(field, "flip to " + to, x -> x.flip(1, flip), -2);
                } else {
                    edge.acts(field, "flip to " + to, x -> x.flip(1, flip), was);
                }
                MaskTouch x = Due.field(field);
                x.flip(1, flip);
                due.is("flipped from " + was + " to " + to, x.body(1, 3), to);
                due.is("flipped from " + was + " to " + to + ": its dot",
                    x.at(to % 2 == 1 ? 11 : 9, to >= 2 ? 10 : 9), 2);
                due.is("flipped from " + was + " to " + to + ": the other one", x.at(0, 0), 1);
            }
        }
        // A mask of 100: dot x is 99 - x; 35 and 36 change words.
        MaskTouch w = Due.field("mask " + ".".repeat(35) + "##" + ".".repeat(62) + "#;body 0 0 0");
        w.flip(0, 1);
        due.is("flip of 100: 0", w.at(0, 0), 1);
        due.is("flip of 100: 62", w.at(62, 0), 0);
        due.is("flip of 100: 63", w.at(63, 0), 1);
        due.is("flip of 100: 64", w.at(64, 0), 1);
        due.is("flip of 100: 65", w.at(65, 0), 0);
        due.is("flip of 100: 99", w.at(99, 0), 0);
    }

    private static void layers() {
        edge.still(TWO, "layers body -1", x -> x.layers(-1, 2, 2), -1);
        edge.still(TWO, "layers body 2", x -> x.layers(2, 2, 2), -1);
        for (int n : new int[] {0, 14, 15}) {
            edge.acts(TWO, "layers own " + n, x -> x.layers(1, n, 1), 1);
            edge.acts(TWO, "layers sees " + n, x -> x.layers(1, 1, n), 1);
            MaskTouch x = Due.field(TWO);
            x.layers(1, n, 15 - n);
            due.is("layers: own " + n, x.body(1, 4), n);
            due.is("layers: sees " + (15 - n), x.body(1, 5), 15 - n);
        }
        for (int n : new int[] {-1, 16}) {
            edge.still(TWO, "layers own " + n, x -> x.layers(0, n, 1), -1);
            edge.still(TWO, "layers sees " + n, x -> x.layers(0, 1, n), -1);
        }
        edge.still(TWO, "layers as they are at first", x -> x.layers(0, 1, 1), -2);
        edge.still("mask #;body 0 0 0 layer 15 0", "layers so", x -> x.layers(0, 15, 0), -2);
        edge.acts("mask #;body 0 0 0 layer 15 0", "layers turned round", x -> x.layers(0, 0, 15), 1);
    }

    private static void speed() {
        edge.still(TWO, "speed body -1", x -> x.speed(-1, 2, 2), -1);
        edge.still(TWO, "speed body 2", x -> x.speed(2, 2, 2), -1);
        for (int n : new int[] {-20, -19, 19, 20}) {
            edge.acts(TWO, "speed vx " + n, x -> x.speed(1, n, 0), 1);
            edge.acts(TWO, "speed vy " + n, x -> x.speed(1, 0, n), 1);
            MaskTouch x = Due.field(TWO);
            x.speed(1, n, -n);
            due.is("speed: vx " + n, x.body(1, 6), n);
            due.is("speed: vy " + -n, x.body(1, 7), -n);
        }
        for (int n : new int[] {-21, 21}) {
            edge.still(TWO, "speed vx " + n, x -> x.speed(0, n, 0), -1);
            edge.still(TWO, "speed vy " + n, x -> x.speed(0, 0, n), -1);
        }
        edge.still(TWO, "speed as it is at first", x -> x.speed(0, 0, 0), -2);
        edge.still("mask #;body 0 0 0 moves 20 -20", "speed so", x -> x.speed(0, 20, -20), -2);
        edge.acts("mask #;body 0 0 0 moves 20 -20", "speed turned round", x -> x.speed(0, -20, 20), 1);
    }

    // ---- masks

    private static void turn() {
        String field = "mask box 100 40;mask .;mask #./.#;body 0 0 0;body 1 200 0";
        edge.still(field, "turn mask -1", x -> x.turn(-1, 0, 0), -1);
        edge.still(field, "turn mask 3", x -> x.turn(3, 0, 0), -1);
        int[][] within = {{0, 0}, {1, 0}, {63, 0}, {64, 0}, {98, 39}, {99, 39}, {0, 38}, {0, 39}, {99, 0}};
        for (int[] p : within) {
            edge.acts(field, "turn " + p[0] + ", " + p[1], x -> x.turn(0, p[0], p[1]), 0);
            MaskTouch x = Due.field(field);
            x.turn(0, p[0], p[1]);
            due.is("turned " + p[0] + ", " + p[1], x.dot(0, p[0], p[1]), 0);
            due.is("turned " + p[0] + ", " + p[1] + ": that alone", x.mask(0, 2), 3999);
            due.is("turned " + p[0] + ", " + p[1] + ": its body", x.at(p[0], p[1]), 0);
            due.is("turned back", x.turn(0, p[0], p[1]), 1);
            due.is("turned back: all", x.mask(0, 2), 4000);
        }
        int[][] beyond = {{-1, 0}, {0, -1}, {100, 0}, {0, 40}, {100, 40}, {-1, -1}, {128, 0}, {127, 0}};
        for (int[] p : beyond) {
            edge.still(field, "turn " + p[0] + ", " + p[1], x -> x.turn(0, p[0], p[1]), -1);
        }
        edge.acts(field, "turn the one place", x -> x.turn(1, 0, 0), 1);
        edge.still(field, "turn beside the one place", x -> x.turn(1, 1, 0), -1);
        edge.still(field, "turn below the one place", x -> x.turn(1, 0, 1), -1);
        edge.acts(field, "turn of the last mask", x -> x.turn(2, 1, 1), 0);
        edge.still(field, "turn beyond the last mask", x -> x.turn(2, 2, 1), -1);
    }

    private static void grown(String form, int come, long low, long rest) {
        edge.acts("mask " + form, "grow", x -> x.grow(0), come);
        MaskTouch x = Due.field("mask " + form);
        x.grow(0);
        due.is("grown " + form + ": word 0", x.row(0, 0, 0), low);
        due.is("grown " + form + ": word 1", x.row(0, 0, 1), rest);
    }

    private static void growWithin() {
        grown("#..", 1, 3, 0);
        grown("..#", 1, 6, 0);
        grown(".#.", 2, 7, 0);
        grown("#.#", 1, 7, 0);
        grown("#/.", 1, 1, 0);
        grown("./#", 1, 1, 0);
        grown(".../.#./...", 4, 2, 0);
        grown("#../.../...", 2, 3, 0);
        grown(".../.../..#", 2, 0, 0);
        grown("..#/.../...", 2, 6, 0);
        grown("./".repeat(39) + "#", 1, 0, 0);
        grown("#" + "/.".repeat(39), 1, 1, 0);
        // From word to word, and not beyond the last sign of a row.
        grown(".".repeat(63) + "#", 1, 3L << 62, 0);
        grown(".".repeat(62) + "#.", 2, 7L << 61, 0);
        grown(".".repeat(63) + "#.", 2, 3L << 62, 1);
        grown(".".repeat(64) + "#", 1, 1L << 63, 1);
        grown(".".repeat(64) + "#.", 2, 1L << 63, 3);
        grown(".".repeat(99) + "#", 1, 0, 3L << 34);
        grown(".".repeat(98) + "#.", 2, 0, 7L << 33);
        grown("#" + ".".repeat(99), 1, 3, 0);
        MaskTouch x = Due.field("mask ....;mask .#;body 1 0 0");
        due.is("grow the last mask", x.grow(1), 1);
        due.is("grow: its body", x.at(0, 0), 1);
        due.is("grow: the other mask", x.mask(0, 2), 0);
    }

    private static void growNone() {
        edge.still("mask #", "grow the one dot", x -> x.grow(0), -2);
        edge.still("mask .", "grow nothing", x -> x.grow(0), -2);
        edge.still("mask .../...", "grow no dots", x -> x.grow(0), -2);
        edge.still("mask ###/###", "grow all dots", x -> x.grow(0), -2);
        edge.still("mask box 100 40", "grow all of the largest", x -> x.grow(0), -2);
        edge.acts("mask ###/##.", "grow all but one", x -> x.grow(0), 1);
        edge.acts("mask ../.#", "grow one", x -> x.grow(0), 2);
        edge.still("mask .#;mask .#", "grow mask -1", x -> x.grow(-1), -1);
        edge.still("mask .#;mask .#", "grow mask 2", x -> x.grow(2), -1);
        edge.acts("mask .#;mask .#", "grow mask 1", x -> x.grow(1), 1);
    }

    private static void thinned(String form, int gone, long low, long rest) {
        edge.acts("mask " + form, "thin", x -> x.thin(0), gone);
        MaskTouch x = Due.field("mask " + form);
        x.thin(0);
        due.is("thinned " + form + ": word 0 of row 1", x.row(0, 1, 0), low);
        due.is("thinned " + form + ": word 1 of row 1", x.row(0, 1, 1), rest);
    }

    private static void thinBeyondItsSides() {
        thinned("#", 1, 0, 0);
        thinned("##/##", 4, 0, 0);
        thinned("###/###", 6, 0, 0);
        thinned("##/##/##", 6, 0, 0);
        thinned("###/###/###", 8, 2, 0);
        thinned(".#./###/.#.", 4, 2, 0);
        thinned("..#./.###/..#.", 4, 4, 0);
        thinned(".##./.##./.##.", 6, 0, 0);
        thinned("###/##./###", 8, 0, 0);
        thinned("###/.##/###", 8, 0, 0);
        thinned("#.#/###/###", 8, 0, 0);
        thinned("###/###/#.#", 8, 0, 0);
        thinned("box 63 3", 189 - 61, (1L << 62) - 2, 0);
        thinned("box 64 3", 192 - 62, Long.MAX_VALUE - 1, 0);
        thinned("box 65 3", 195 - 63, -2, 0);
        thinned("box 66 3", 198 - 64, -2, 1);
        thinned("box 100 3", 300 - 98, -2, (1L << 35) - 1);
        thinned("box 100 40", 276, -2, (1L << 35) - 1);
        MaskTouch x = Due.field("mask box 100 40;body 0 0 0");
        x.thin(0);
        due.is("thinned to the last row but one", x.row(0, 38, 0), -2);
        due.is("thinned: the last row", x.row(0, 39, 0), 0);
        due.is("thinned: the first row", x.row(0, 0, 1), 0);
        due.is("thinned: its body", x.at(0, 0) + x.at(1, 1), 1);
    }

    private static void thinNone() {
        edge.still("mask .", "thin nothing", x -> x.thin(0), -2);
        edge.still("mask ..../....", "thin no dots", x -> x.thin(0), -2);
        edge.still("mask #;mask #", "thin mask -1", x -> x.thin(-1), -1);
        edge.still("mask #;mask #", "thin mask 2", x -> x.thin(2), -1);
        edge.acts("mask #;mask #", "thin mask 1", x -> x.thin(1), 1);
    }

    private static void joinWithin() {
        String dot = "#" + ".".repeat(99);
        String end = ".".repeat(99) + "#";
        String field = "mask " + dot + ";mask " + end;
        edge.still(field, "join mask -1", x -> x.join(-1, 0, 0, 0, 0), -1);
        edge.still(field, "join mask 2", x -> x.join(2, 0, 0, 0, 0), -1);
        edge.still(field, "join with mask -1", x -> x.join(0, -1, 0, 0, 0), -1);
        edge.still(field, "join with mask 2", x -> x.join(0, 2, 0, 0, 0), -1);
        edge.acts(field, "join dx 99", x -> x.join(1, 0, 99, 0, 1), 1);
        edge.acts(field, "join dx 98", x -> x.join(1, 0, 98, 0, 0), 2);
        edge.acts(field, "join dx -99", x -> x.join(0, 1, -99, 0, 1), 1);
        edge.acts(field, "join dx -98", x -> x.join(0, 1, -98, 0, 0), 2);
        edge.still(field, "join dx 100", x -> x.join(1, 0, 100, 0, 0), -1);
        edge.still(field, "join dx -100", x -> x.join(0, 1, -100, 0, 0), -1);
        edge.acts(field, "join beyond the right", x -> x.join(0, 1, 1, 0, 0), 1);
        edge.acts(field, "join beyond the left", x -> x.join(1, 0, -1, 0, 0), 1);
        String tall = "mask #" + "/.".repeat(39) + ";mask " + "./".repeat(39) + "#";
        edge.acts(tall, "join dy 39", x -> x.join(1, 0, 0, 39, 1), 1);
        edge.acts(tall, "join dy 40", x -> x.join(1, 0, 0, 40, 0), 1);
        edge.acts(tall, "join dy -39", x -> x.join(0, 1, 0, -39, 1), 1);
        edge.acts(tall, "join dy -40", x -> x.join(0, 1, 0, -40, 0), 1);
        edge.acts(tall, "join dy 99", x -> x.join(0, 1, 0, 99, 0), 1);
        edge.acts(tall, "join dy -99", x -> x.join(0, 1, 0, -99, 0), 1);
        edge.still(tall, "join dy 100", x -> x.join(0, 1, 0, 100, 0), -1);
        edge.still(tall, "join dy -100", x -> x.join(0, 1, 0, -100, 0), -1);
        // Sizes that differ: what lies beyond the smaller one is not there.
        String sizes = "mask ..;mask ####/####;mask ...../...../.....;body 0 0 0";
        edge.acts(sizes, "join a larger one", x -> x.join(0, 1, 0, 0, 0), 2);
        edge.acts(sizes, "join a smaller one", x -> x.join(2, 1, 3, 2, 0), 2);
        edge.acts(sizes, "join a smaller one above the left", x -> x.join(2, 1, -3, -1, 0), 1);
        MaskTouch x = Due.field(sizes);
        x.join(0, 1, 1, 0, 0);
        due.is("joined from x 1 on", x.row(0, 0, 0), 2);
        due.is("joined: nothing beyond W", x.row(0, 0, 1), 0);
        due.is("joined: its body", x.at(0, 0) + 10 * x.at(1, 0), 10);
        due.is("joined: the other one stays", x.mask(1, 2), 8);
        // W 64 and 70: what is joined ends at the mask's side, at a word's end and behind it.
        MaskTouch w = Due.field("mask box 64 1;mask box 70 1;mask box 100 1");
        due.is("joined to 64", w.join(0, 2, 0, 0, 3), 0);
        due.is("joined to 64: word 1", w.row(0, 0, 1), 0);
        due.is("joined to 70", w.join(1, 2, 0, 0, 3), 0);
        due.is("joined to 70: word 1", w.row(1, 0, 1), 0);
        due.is("joined to 70 from 69 on", w.join(1, 2, 69, 0, 0), 1);
        due.is("joined to 70 from 69 on: word 1", w.row(1, 0, 1), 32);
    }

    private static void joinHow() {
        String field = "mask ##..;mask #.#.";
        int[] dots = {3, 1, 1, 2};
        long[] rows = {7, 1, 2, 6};
        for (int how = 0; how <= 3; how++) {
            int h = how;
            edge.acts(field, "join how " + how, x -> x.join(0, 1, 0, 0, h), dots[h]);
            MaskTouch x = Due.field(field);
            x.join(0, 1, 0, 0, h);
            due.is("joined how " + how, x.row(0, 0, 0), rows[h]);
        }
        edge.still(field, "join how -1", x -> x.join(0, 1, 0, 0, -1), -1);
        edge.still(field, "join how 4", x -> x.join(0, 1, 0, 0, 4), -1);
        // Where nothing of the other one lies, there is no dot of it.
        edge.acts(field, "join with nothing, 0", x -> x.join(0, 1, 99, 99, 0), 2);
        edge.acts(field, "join with nothing, 1", x -> x.join(0, 1, 99, 99, 1), 0);
        edge.acts(field, "join with nothing, 2", x -> x.join(0, 1, 99, 99, 2), 2);
        edge.acts(field, "join with nothing, 3", x -> x.join(0, 1, 99, 99, 3), 2);
    }

    private static void joinTheSame() {
        edge.acts("mask #....", "join the same, once", x -> x.join(0, 0, 1, 0, 0), 2);
        edge.acts("mask #/./.", "join the same below, once", x -> x.join(0, 0, 0, 1, 0), 2);
        edge.acts("mask ././#", "join the same above, once", x -> x.join(0, 0, 0, -1, 0), 2);
        edge.acts("mask ##.#", "join the same on itself, 0", x -> x.join(0, 0, 0, 0, 0), 3);
        edge.acts("mask ##.#", "join the same on itself, 3", x -> x.join(0, 0, 0, 0, 3), 0);
    }

    // ---- slides

    private static void slideFar() {
        edge.still(TWO, "slide body -1", x -> x.slide(-1, 1, 1), -1);
        edge.still(TWO, "slide body 2", x -> x.slide(2, 1, 1), -1);
        edge.acts(TWO, "slide body 1", x -> x.slide(1, 1, 1), 1);
        for (int n : new int[] {-200, -199, 199, 200}) {
            edge.acts(TWO, "slide dx " + n, x -> x.slide(0, n, 0), Math.abs(n));
            edge.acts(TWO, "slide dy " + n, x -> x.slide(0, 0, n), Math.abs(n));
            MaskTouch x = Due.field(TWO);
            x.slide(0, n, -n / 2);
            due.is("slid to x " + n, x.body(0, 1), n);
        }
        for (int n : new int[] {-201, 201}) {
            edge.still(TWO, "slide dx " + n, x -> x.slide(0, n, 0), -1);
            edge.still(TWO, "slide dy " + n, x -> x.slide(0, 0, n), -1);
        }
        edge.still(TWO, "slide by nothing", x -> x.slide(0, 0, 0), -2);
        edge.acts(TWO, "slide one", x -> x.slide(0, 0, 1), 1);
        edge.acts(TWO, "slide the greater of both", x -> x.slide(0, -3, 7), 7);
        edge.acts(TWO, "slide the greater of both, x", x -> x.slide(0, -8, 7), 8);
    }

    private static void slideToTheEnds() {
        int[][] ways = {{1, 0}, {-1, 0}, {0, 1}, {0, -1}};
        for (int[] w : ways) {
            for (int left = 0; left <= 3; left++) {
                String field = "mask .;body 0 " + w[0] * (999 - left) + " " + w[1] * (999 - left);
                for (int far = 1; far <= 4; far++) {
                    int n = far;
                    int want = Math.min(left, far);
                    if (want == 0) {
                        edge.still(field, "slide " + n, x -> x.slide(0, n * w[0], n * w[1]), -2);
                    } else {
                        edge.acts(field, "slide " + n, x -> x.slide(0, n * w[0], n * w[1]), want);
                    }
                }
            }
        }
        // The WAY of 4, 1 goes up by its second STEP: at y 999 it ends ahead of that.
        edge.acts("mask #;body 0 0 999", "slide along the end", x -> x.slide(0, 4, 1), 1);
        edge.acts("mask #;body 0 0 998", "slide to the end and along it", x -> x.slide(0, 4, 1), 4);
        edge.acts("mask #;body 0 0 -999", "slide along the other end", x -> x.slide(0, 4, -1), 2);
    }

    private static void slideUpToBodies() {
        for (int at = 1; at <= 5; at++) {
            String field = "mask #;body 0 0 0;body 0 " + at + " 0";
            int steps = Math.min(at - 1, 3);
            if (steps == 0) {
                edge.still(field, "slide 3", x -> x.slide(0, 3, 0), -2);
            } else {
                edge.acts(field, "slide 3", x -> x.slide(0, 3, 0), steps);
            }
        }
        String unseen = "mask #;body 0 0 0;body 0 1 0 layer 2 2";
        edge.acts(unseen, "slide through one that it may not touch", x -> x.slide(0, 3, 0), 3);
        edge.still("mask #;body 0 0 0 layer 0 2;body 0 1 0 layer 2 0", "slide to one that it sees", x -> x.slide(0, 3, 0), -2);
        edge.still("mask #;body 0 0 0 layer 2 0;body 0 1 0 layer 0 2", "slide to one that sees it", x -> x.slide(0, 3, 0), -2);
        edge.acts("mask .;mask #;body 0 0 0;body 1 1 0", "slide without dots", x -> x.slide(0, 3, 0), 3);
        edge.acts("mask .;mask #;body 1 0 0;body 0 1 0", "slide to one without dots", x -> x.slide(0, 3, 0), 3);
        // STEP by STEP: what lies on the way stops it, however long the way is.
        MaskTouch x = Due.field("mask #;body 0 -100 0;body 0 99 0");
        due.is("slide 200 to one", x.slide(0, 200, 0), 198);
        due.is("slide 200 to one: x", x.body(0, 1), 98);
        MaskTouch y = Due.field("mask #;body 0 -100 0;body 0 100 0");
        due.is("slide 200, the last STEP", y.slide(0, 200, 0), 199);
        MaskTouch z = Due.field("mask #;body 0 -100 0;body 0 101 0");
        due.is("slide 200, just not", z.slide(0, 200, 0), 200);
    }

    private static void slideWhatItTouchesAsItSetsOut() {
        String hoop = "mask #..#;mask #;body 0 0 0;body 1 ";
        edge.acts(hoop + "0 0", "slide off one and on it again", x -> x.slide(1, 9, 0), 9);
        edge.acts(hoop + "1 0", "slide within one", x -> x.slide(1, 9, 0), 1);
        edge.still(hoop + "2 0", "slide onto one", x -> x.slide(1, 9, 0), -2);
        edge.acts(hoop + "3 0", "slide off one", x -> x.slide(1, 9, 0), 9);
        // Another one that it does not touch stops it all the same.
        edge.acts(hoop + "0 0;body 1 2 0", "slide up to a third", x -> x.slide(1, 9, 0), 1);
        // One whose place it shares but which it may not touch is none that it touches.
        edge.acts("mask #;body 0 0 0;body 0 0 0 layer 2 2;body 0 2 0 layer 3 3", "slide off an unseen one",
            x -> x.slide(0, 9, 0), 1);
    }

    /** A half goes up: 2 k dx and n, by 2 n, downwards. */
    private static void waysGoUpAtHalves() {
        int[][] halves = {{2, 1, 1, 1}, {2, -1, 1, 0}, {-2, 1, -1, 1}, {-2, -1, -1, 0}, {1, 2, 1, 1}, {-1, 2, 0, 1},
            {1, -2, 1, -1}, {-1, -2, 0, -1}, {3, 1, 1, 0}, {3, -1, 1, 0}, {4, 1, 1, 0}, {4, 3, 1, 1}, {4, -3, 1, -1},
            {4, -1, 1, 0}, {5, 2, 1, 0}, {5, -2, 1, 0}, {5, 3, 1, 1}, {1, 1, 1, 1}, {-1, -1, -1, -1}, {6, 3, 1, 1},
            {6, -3, 1, 0}, {200, 100, 1, 1}, {200, -100, 1, 0}, {200, 99, 1, 0}, {200, 101, 1, 1}};
        for (int[] h : halves) {
            // A body where STEP 1 leads stops it there; one beside that does not.
            MaskTouch x = Due.field("mask #;body 0 0 0;body 0 " + h[2] + " " + h[3]);
            due.is("STEP 1 of " + h[0] + ", " + h[1], x.slide(0, h[0], h[1]), -2);
            x.place(1, 500, 500);
            due.is("all STEPS of " + h[0] + ", " + h[1], x.slide(0, h[0], h[1]), Math.max(Math.abs(h[0]), Math.abs(h[1])));
            due.is("the last STEP of " + h[0] + ", " + h[1] + ": x", x.body(0, 1), h[0]);
            due.is("the last STEP of " + h[0] + ", " + h[1] + ": y", x.body(0, 2), h[1]);
        }
    }

    // ---- pushes

    private static void pushFar() {
        edge.still(TWO, "push body -1", x -> x.push(-1, 1, 1), -1);
        edge.still(TWO, "push body 2", x -> x.push(2, 1, 1), -1);
        edge.acts(TWO, "push body 1", x -> x.push(1, 1, 1), 1);
        for (int n : new int[] {-200, -199, 199, 200}) {
            edge.acts(TWO, "push dx " + n, x -> x.push(0, n, 0), Math.abs(n));
            edge.acts(TWO, "push dy " + n, x -> x.push(0, 0, n), Math.abs(n));
        }
        for (int n : new int[] {-201, 201}) {
            edge.still(TWO, "push dx " + n, x -> x.push(0, n, 0), -1);
            edge.still(TWO, "push dy " + n, x -> x.push(0, 0, n), -1);
        }
        edge.still(TWO, "push by nothing", x -> x.push(0, 0, 0), -2);
        edge.still("mask #;body 0 0 0;body 0 0 0", "push by nothing on one", x -> x.push(0, 0, 0), -2);
        MaskTouch x = Due.field(TWO);
        due.is("push aslant", x.push(0, 7, -3), 7);
        due.is("push aslant: x", x.body(0, 1), 7);
        due.is("push aslant: y", x.body(0, 2), -3);
    }

    private static void pushToTheEnds() {
        int[][] ways = {{1, 0}, {-1, 0}, {0, 1}, {0, -1}};
        for (int[] w : ways) {
            for (int left = 0; left <= 2; left++) {
                int end = 999 - left;
                String alone = "mask #;body 0 " + w[0] * end + " " + w[1] * end;
                // The second one lies two ahead: a STEP is free, then it goes with the first.
                String both = "mask #;body 0 " + w[0] * (end - 2) + " " + w[1] * (end - 2) + ";body 0 "
                    + w[0] * end + " " + w[1] * end;
                int n = left;
                if (left == 0) {
                    edge.still(alone, "push 3", x -> x.push(0, 3 * w[0], 3 * w[1]), -2);
                } else {
                    edge.acts(alone, "push 3", x -> x.push(0, 3 * w[0], 3 * w[1]), n);
                }
                edge.acts(both, "push 9", x -> x.push(0, 9 * w[0], 9 * w[1]), n + 1);
                MaskTouch x = Due.field(both);
                x.push(0, 9 * w[0], 9 * w[1]);
                due.is("pushed to the end", Math.abs(x.body(0, 1) + x.body(0, 2)), 998);
                due.is("pushed to the end: the other one", Math.abs(x.body(1, 1) + x.body(1, 2)), 999);
            }
        }
        edge.still("mask #;body 0 998 0;body 0 999 0", "push one that is at its end", x -> x.push(0, 1, 0), -2);
        edge.still("mask #;body 0 997 0;body 0 998 0;body 0 999 0", "push two, the last at its end", x -> x.push(0, 1, 0), -2);
        // By STEP 1 of 2, 1 all go 1, 1: the second is at y 999, so none goes, though x is free.
        edge.still("mask ##/##;mask #;body 0 0 997;body 1 2 999", "push one beyond in y", x -> x.push(0, 2, 1), -2);
    }

    private static void pushWhoGoes() {
        String hoop = "mask #..#;mask #;body 0 0 0;body 1 0 0";
        // It touches the hoop as it sets out and leaves it; from STEP 3 on the hoop's other end is ahead of it.
        edge.acts(hoop, "push within a hoop", x -> x.push(1, 5, 0), 5);
        MaskTouch x = Due.field(hoop);
        x.push(1, 5, 0);
        due.is("push within a hoop: it", x.body(1, 1), 5);
        due.is("push within a hoop: the hoop", x.body(0, 1), 3);
        // It goes on touching one that it touches ahead of each STEP: that stays.
        MaskTouch long1 = Due.field("mask box 9 1;mask #;body 0 0 0;body 1 0 0");
        due.is("push along one that it touches", long1.push(1, 8, 0), 8);
        due.is("push along one that it touches: that stays", long1.body(0, 1), 0);
        due.is("push off it", long1.push(1, 1, 0), 1);
        due.is("push onto it again", long1.push(1, -1, 0), 1);
        due.is("push onto it again: it goes", long1.body(0, 1), -1);
        // Whom it may not touch stays; one that goes takes along whom it may touch.
        MaskTouch chain = Due.field("mask #;body 0 0 0;body 0 1 0 layer 2 2;body 0 1 0 layer 3 3;body 0 2 0 layer 2 2");
        due.is("push one of two", chain.push(0, 1, 0), 1);
        due.is("push one of two: unseen", chain.body(1, 1), 1);
        due.is("push one of two: seen", chain.body(2, 1), 2);
        due.is("push one of two: the next", chain.body(3, 1), 3);
        // All ten go at once, in whatever order they are told.
        StringBuilder text = new StringBuilder("mask #");
        for (int at : new int[] {0, 9, 4, 2, 7, 5, 1, 8, 3, 6}) {
            text.append(";body 0 ").append(at).append(" 0");
        }
        MaskTouch all = Due.field(text.toString());
        due.is("push ten", all.push(0, 3, 0), 3);
        int sum = 0;
        for (int i = 0; i < 10; i++) {
            sum += all.body(i, 1);
        }
        due.is("push ten: all are three farther", sum, 45 + 30);
        due.is("push ten: none on another", all.contact(-1), 0);
        due.is("push ten: one act", all.count(3), 1);
    }

    // ---- falls

    private static void fallsNone() {
        edge.still("", "falls of nothing", x -> x.falls(), -1);
        edge.still("mask #", "falls without bodies", x -> x.falls(), -1);
        edge.still("mask #;body 0 0 999", "falls at 999", x -> x.falls(), -2);
        edge.acts("mask #;body 0 0 998", "falls at 998", x -> x.falls(), 1);
        edge.still("mask #;body 0 0 998;body 0 0 999", "falls on another one", x -> x.falls(), -2);
        edge.acts("mask #;body 0 0 998;body 0 1 999", "falls beside another one", x -> x.falls(), 1);
        edge.acts("mask #;body 0 0 998;body 0 0 999 layer 2 2", "falls through another one", x -> x.falls(), 1);
        edge.acts("mask .;body 0 0 998", "falls without dots", x -> x.falls(), 1);
        // Where 0, 0 of the mask lies counts, not its dots.
        edge.still("mask #/#/#;body 0 0 999", "falls with a foot below 999", x -> x.falls(), -2);
    }

    private static void fallsAgainAndAgain() {
        edge.acts("mask #;body 0 0 800", "falls 199", x -> x.falls(), 199);
        edge.acts("mask #;body 0 0 799", "falls 200", x -> x.falls(), 200);
        edge.acts("mask #;body 0 0 798", "falls 201", x -> x.falls(), 201);
        edge.acts("mask #;body 0 0 599", "falls 400", x -> x.falls(), 400);
        edge.acts("mask #;body 0 0 598", "falls 401", x -> x.falls(), 401);
        edge.acts("mask #;body 0 0 -999", "falls 1998", x -> x.falls(), 1998);
        // The upper one is told first: it waits a round for the lower one.
        edge.acts("mask #;body 0 0 900;body 0 0 901", "falls behind another one", x -> x.falls(), 98 + 98);
        edge.acts("mask #;body 0 0 901;body 0 0 900", "falls behind another one, told later", x -> x.falls(), 98 + 98);
        StringBuilder text = new StringBuilder("mask #");
        for (int i = 0; i < 10; i++) {
            text.append(";body 0 0 ").append(-999 + i);
        }
        edge.acts(text.toString(), "falls of ten, the uppermost first", x -> x.falls(), 10 * 1989);
        // As each SLIDE sets out anew: they touch, part, and then the one lies on the other.
        edge.acts("mask ##/##;body 0 0 900;body 0 0 901", "falls of two that touch", x -> x.falls(), 99 + 96);
        MaskTouch x = Due.field("mask #;body 0 7 -999 moves 3 -3;body 0 -8 0 flip 2");
        due.is("falls straight down", x.falls(), 1998 + 999);
        int[] down = {0, 7, 999, 0, 1, 1, 3, -3};
        for (int what = 0; what < 8; what++) {
            due.is("fallen: " + what, x.body(0, what), down[what]);
        }
        due.is("fallen: the other one's x", x.body(1, 1), -8);
        due.is("fallen: the other one's y", x.body(1, 2), 999);
        due.is("fallen: ticks", x.count(6), 0);
    }

    // ---- crop and quarter

    private static void cropNone() {
        edge.still("mask #", "crop the one dot", x -> x.crop(0), -2);
        edge.still("mask .", "crop nothing", x -> x.crop(0), -2);
        edge.still("mask .../...;body 0 999 999", "crop no dots", x -> x.crop(0), -2);
        edge.still("mask box 100 40", "crop all dots", x -> x.crop(0), -2);
        edge.still("mask #../..#", "crop from corner to corner", x -> x.crop(0), -2);
        edge.still("mask .#./#.#/.#.", "crop from side to side", x -> x.crop(0), -2);
        edge.acts("mask .#", "crop the left", x -> x.crop(0), 1);
        edge.acts("mask #.", "crop the right", x -> x.crop(0), 1);
        edge.acts("mask ./#", "crop above", x -> x.crop(0), 1);
        edge.acts("mask #/.", "crop below", x -> x.crop(0), 1);
        edge.acts("mask ..../.##./....", "crop all round", x -> x.crop(0), 2);
        edge.acts("mask " + ".".repeat(99) + "#", "crop to the last of 100", x -> x.crop(0), 1);
        edge.acts("mask " + "./".repeat(39) + "#", "crop to the last of 40", x -> x.crop(0), 1);
        edge.still("mask .#;mask .#", "crop mask -1", x -> x.crop(-1), -1);
        edge.still("mask .#;mask .#", "crop mask 2", x -> x.crop(2), -1);
        edge.acts("mask .#;mask .#", "crop mask 1", x -> x.crop(1), 1);
        MaskTouch x = Due.field("mask " + ".".repeat(63) + "#.#" + ".".repeat(34) + ";body 0 -999 7");
        due.is("crop over the words", x.crop(0), 3);
        due.is("crop over the words: row", x.row(0, 0, 0), 5);
        due.is("crop over the words: word 1", x.row(0, 0, 1), 0);
        due.is("crop over the words: x", x.body(0, 1), -999 + 63);
        due.is("crop over the words: a dot", x.at(-999 + 65, 7), 1);
    }

    private static void cropBeyond999() {
        edge.acts("mask .#;body 0 998 0", "crop to x 999", x -> x.crop(0), 1);
        edge.still("mask .#;body 0 999 0", "crop to x 1000", x -> x.crop(0), -3);
        edge.acts("mask ./#;body 0 0 998", "crop to y 999", x -> x.crop(0), 1);
        edge.still("mask ./#;body 0 0 999", "crop to y 1000", x -> x.crop(0), -3);
        edge.acts("mask #.;body 0 999 999", "crop the right at 999", x -> x.crop(0), 1);
        edge.acts("mask #/.;body 0 999 999", "crop below at 999", x -> x.crop(0), 1);
        // A flipped one moves by what goes at its other side.
        edge.acts("mask .#;body 0 999 999 flip 1", "crop the left of a flipped one", x -> x.crop(0), 1);
        edge.still("mask #.;body 0 999 0 flip 1", "crop the right of a flipped one", x -> x.crop(0), -3);
        edge.acts("mask #.;body 0 998 0 flip 1", "crop the right of a flipped one to 999", x -> x.crop(0), 1);
        edge.still("mask #/.;body 0 0 999 flip 2", "crop below a flipped one", x -> x.crop(0), -3);
        edge.acts("mask ./#;body 0 0 999 flip 2", "crop above a flipped one", x -> x.crop(0), 1);
        edge.still("mask #/.;body 0 0 999 flip 3", "crop below one that is flipped twice", x -> x.crop(0), -3);
        // One body beyond is enough, and none moves then; bodies of other masks are not asked.
        edge.still("mask .#;body 0 0 0;body 0 999 0;body 0 5 5", "crop with one of three beyond", x -> x.crop(0), -3);
        edge.acts("mask .#;mask #;body 0 0 0;body 1 999 0", "crop with another one's body at 999", x -> x.crop(0), 1);
        edge.still("mask #;body 0 999 999", "crop what stays, at 999", x -> x.crop(0), -2);
    }

    private static void cropMoves() {
        String form = "mask ...../...../.#...;body 0 -999 -999 flip ";
        int[][] moved = {{1, 2}, {3, 2}, {1, 0}, {3, 0}};
        for (int flip = 0; flip <= 3; flip++) {
            MaskTouch x = Due.field(form + flip);
            x.crop(0);
            due.is("cropped: x, flip " + flip, x.body(0, 1), -999 + moved[flip][0]);
            due.is("cropped: y, flip " + flip, x.body(0, 2), -999 + moved[flip][1]);
            due.is("cropped: its dot stays, flip " + flip, x.at(-999 + moved[flip][0], -999 + moved[flip][1]), 1);
            due.is("cropped: W and H", 10 * x.mask(0, 0) + x.mask(0, 1), 11);
        }
        MaskTouch x = Due.field("mask ....../..#.#./.#..../......;body 0 0 0;body 0 2 0");
        due.is("crop to 4 by 2", x.crop(0), 8);
        int[] told = {4, 2, 3, 0, 0, 3, 1, 3, 0, 12};
        for (int what = 0; what < 10; what++) {
            due.is("cropped to 4 by 2: " + what, x.mask(0, what), told[what]);
        }
        due.is("cropped to 4 by 2: row 0", x.row(0, 0, 0), 10);
        due.is("cropped to 4 by 2: row 1", x.row(0, 1, 0), 1);
        due.is("cropped to 4 by 2: all dots", x.count(2), 3);
        due.is("cropped to 4 by 2: they touch", x.touching(0), 2);
        // Ten bodies, all of the mask: each moves, or none.
        MaskTouch ten = Due.field("mask .#" + ";body 0 998 5".repeat(10));
        due.is("crop of ten", ten.crop(0), 1);
        for (int i = 0; i < 10; i++) {
            due.is("crop of ten: " + i, ten.body(i, 1), 999);
        }
        edge.still("mask .#" + ";body 0 998 5".repeat(9) + ";body 0 999 5", "crop of ten, the last beyond", t -> t.crop(0), -3);
        // A body of a field that was told before is none.
        MaskTouch anew = Due.field("mask .#;body 0 0 0;body 0 999 0");
        Due.tell(anew, "mask .#;body 0 0 0");
        due.is("crop with a body that is gone", anew.crop(0), 1);
    }

    private static void quarterUpTo40() {
        edge.acts("mask box 39 2", "quarter of 39", x -> x.quarter(0), 2);
        edge.acts("mask box 40 2", "quarter of 40", x -> x.quarter(0), 2);
        edge.still("mask box 41 2", "quarter of 41", x -> x.quarter(0), -2);
        edge.still("mask box 100 40", "quarter of 100", x -> x.quarter(0), -2);
        edge.acts("mask box 40 40", "quarter of 40 by 40", x -> x.quarter(0), 40);
        edge.acts("mask #", "quarter of the one dot", x -> x.quarter(0), 1);
        edge.acts("mask .", "quarter of nothing", x -> x.quarter(0), 1);
        edge.still("mask #;mask #", "quarter mask -1", x -> x.quarter(-1), -1);
        edge.still("mask #;mask #", "quarter mask 2", x -> x.quarter(2), -1);
        edge.acts("mask #;mask ##", "quarter mask 1", x -> x.quarter(1), 1);
        // The dot x, y comes to H - 1 - y, x: each corner of 3 by 2 to the next one.
        int[][] corners = {{0, 0, 1, 0}, {2, 0, 1, 2}, {2, 1, 0, 2}, {0, 1, 0, 0}};
        for (int[] c : corners) {
            MaskTouch x = Due.field("mask .../...;body 0 5 5");
            x.turn(0, c[0], c[1]);
            due.is("quarter of 3 by 2", x.quarter(0), 2);
            due.is("quarter of 3 by 2: H", x.mask(0, 1), 3);
            due.is("quarter of " + c[0] + ", " + c[1], x.dot(0, c[2], c[3]), 1);
            due.is("quarter of " + c[0] + ", " + c[1] + ": that alone", x.mask(0, 2), 1);
            due.is("quarter of " + c[0] + ", " + c[1] + ": its body", x.at(5 + c[2], 5 + c[3]), 1);
        }
        MaskTouch full = Due.field("mask " + "#" + ".".repeat(39));
        due.is("quarter of a row of 40", full.quarter(0), 1);
        due.is("quarter of a row of 40: H", full.mask(0, 1), 40);
        due.is("quarter of a row of 40: its dot", full.dot(0, 0, 0), 1);
        due.is("quarter of a column of 40", full.quarter(0), 40);
        due.is("quarter of a column of 40: its dot", full.dot(0, 39, 0), 1);
    }

    // ---- ticks

    private static void ticksUpTo20() {
        String field = "mask #;body 0 0 0 moves 20 -20";
        edge.still(field, "ticks 0", x -> x.ticks(0), -1);
        edge.still(field, "ticks -1", x -> x.ticks(-1), -1);
        edge.still(field, "ticks 21", x -> x.ticks(21), -1);
        for (int n : new int[] {1, 2, 19, 20}) {
            edge.acts(field, "ticks " + n, x -> x.ticks(n), 0);
            MaskTouch x = Due.field(field);
            x.ticks(n);
            due.is("ticks " + n + ": x", x.body(0, 1), 20 * n);
            due.is("ticks " + n + ": y", x.body(0, 2), -20 * n);
            due.is("ticks " + n + ": how many", x.count(6), n);
        }
        edge.acts("", "ticks of nothing", x -> x.ticks(20), 0);
        edge.still("", "ticks 21 of nothing", x -> x.ticks(21), -1);
        edge.acts("mask #;body 0 0 0", "ticks of one that does not move", x -> x.ticks(1), 0);
    }

    private static void ticked(String field, int stopped, int x, int y, int vx) {
        edge.acts(field, "ticks 1", t -> t.ticks(1), stopped);
        MaskTouch t = Due.field(field);
        t.ticks(1);
        due.is("ticked <" + field + ">: x", t.body(0, 1), x);
        due.is("ticked <" + field + ">: y", t.body(0, 2), y);
        due.is("ticked <" + field + ">: vx", t.body(0, 6), vx);
    }

    private static void ticksStopped() {
        // Five STEPS: one that lies where the last leads stops it ahead of that, one that lies farther does not.
        ticked("mask #;body 0 0 0 moves 5 0;body 0 1 0", 1, 0, 0, -5);
        ticked("mask #;body 0 0 0 moves 5 0;body 0 4 0", 1, 3, 0, -5);
        ticked("mask #;body 0 0 0 moves 5 0;body 0 5 0", 1, 4, 0, -5);
        ticked("mask #;body 0 0 0 moves 5 0;body 0 6 0", 0, 5, 0, 5);
        ticked("mask #;body 0 993 0 moves 5 0", 0, 998, 0, 5);
        ticked("mask #;body 0 994 0 moves 5 0", 0, 999, 0, 5);
        ticked("mask #;body 0 995 0 moves 5 0", 1, 999, 0, -5);
        ticked("mask #;body 0 999 0 moves 5 0", 1, 999, 0, -5);
        ticked("mask #;body 0 -994 0 moves -5 0", 0, -999, 0, -5);
        ticked("mask #;body 0 -995 0 moves -5 0", 1, -999, 0, 5);
        ticked("mask #;body 0 0 999 moves 0 0", 0, 0, 999, 0);
        ticked("mask #;body 0 0 0;body 0 0 0", 0, 0, 0, 0);
        ticked("mask #;body 0 0 0 moves 5 0;body 0 0 0", 0, 5, 0, 5);
        ticked("mask #;body 0 0 0 moves 1 0;body 0 1 0 layer 2 2", 0, 1, 0, 1);
        // Both are turned round, whichever of them led beyond.
        MaskTouch both = Due.field("mask #;body 0 0 999 moves 7 3");
        due.is("ticks turned round", both.ticks(1), 1);
        due.is("ticks turned round: vx", both.body(0, 6), -7);
        due.is("ticks turned round: vy", both.body(0, 7), -3);
        MaskTouch jammed = Due.field("mask #;body 0 0 0;body 0 1 0 moves 1 0;body 0 2 0");
        due.is("stopped in each tick", jammed.ticks(20), 20);
        due.is("stopped in each tick: turned back", jammed.body(1, 6), 1);
        due.is("stopped in one more", jammed.ticks(1), 1);
        due.is("stopped in one more: turned", jammed.body(1, 6), -1);
    }

    private static void ticksBodyByBody() {
        // The first goes first: it is stopped by where the second still is; told the other way round, none is.
        MaskTouch x = Due.field("mask #;body 0 0 0 moves 1 0;body 0 1 0 moves 1 0");
        due.is("body by body", x.ticks(1), 1);
        MaskTouch y = Due.field("mask #;body 0 1 0 moves 1 0;body 0 0 0 moves 1 0");
        due.is("body by body, the other way round", y.ticks(1), 0);
        MaskTouch both = Due.field("mask #;body 0 0 0 moves 2 0;body 0 3 0 moves -2 0");
        due.is("two that meet", both.ticks(1), 1);
        due.is("two that meet: the first", both.body(0, 1), 2);
        due.is("two that meet: the second", both.body(1, 1), 3);
        due.is("two that meet: the second alone was stopped", both.body(0, 6) + 10 * both.body(1, 6), 22);
        // One that is stopped at once stays, however far the one ahead of it went.
        MaskTouch stays = Due.field("mask #;body 0 0 0 moves 5 7;body 0 50 50 moves 1 1;body 0 51 51");
        due.is("one that stays", stays.ticks(1), 1);
        due.is("one that stays: x", stays.body(1, 1), 50);
        due.is("one that stays: y", stays.body(1, 2), 50);
        due.is("one that stays: the one ahead", 10 * stays.body(0, 1) + stays.body(0, 2), 57);
    }

    // ---- in general

    /** What is refused with NONE is so even where -2 would be due, too. */
    private static void noneAheadOfMinus2() {
        edge.still(TWO, "slide by nothing, no body", x -> x.slide(2, 0, 0), -1);
        edge.still(TWO, "slide by nothing, too far", x -> x.slide(0, 0, 201), -1);
        edge.still("mask #;body 0 999 0", "slide beyond and too far", x -> x.slide(0, 201, 0), -1);
        edge.still(TWO, "push by nothing, no body", x -> x.push(2, 0, 0), -1);
        edge.still("mask #;body 0 999 0", "push beyond and too far", x -> x.push(0, 201, 0), -1);
        edge.still(TWO, "flip as it is, no body", x -> x.flip(2, 0), -1);
        edge.still(TWO, "layers as they are, no body", x -> x.layers(2, 1, 1), -1);
        edge.still(TWO, "layers, one as it is, one too great", x -> x.layers(0, 1, 16), -1);
        edge.still(TWO, "speed as it is, no body", x -> x.speed(2, 0, 0), -1);
        edge.still(TWO, "speed, one as it is, one too great", x -> x.speed(0, 0, 21), -1);
        edge.still(TWO, "place, one as it is, one too great", x -> x.place(0, 0, 1000), -1);
    }

    private static void nothingThere() {
        for (String field : new String[] {"", "mask #"}) {
            edge.still(field, "place", x -> x.place(0, 0, 0), -1);
            edge.still(field, "flip", x -> x.flip(0, 0), -1);
            edge.still(field, "layers", x -> x.layers(0, 0, 0), -1);
            edge.still(field, "speed", x -> x.speed(0, 0, 0), -1);
            edge.still(field, "slide", x -> x.slide(0, 1, 0), -1);
            edge.still(field, "push", x -> x.push(0, 1, 0), -1);
            edge.still(field, "falls", x -> x.falls(), -1);
        }
        edge.still("", "turn", x -> x.turn(0, 0, 0), -1);
        edge.still("", "grow", x -> x.grow(0), -1);
        edge.still("", "thin", x -> x.thin(0), -1);
        edge.still("", "join", x -> x.join(0, 0, 0, 0, 0), -1);
        edge.still("", "crop", x -> x.crop(0), -1);
        edge.still("", "quarter", x -> x.quarter(0), -1);
        edge.still("mask #", "join with none", x -> x.join(0, 1, 0, 0, 0), -1);
    }
}
