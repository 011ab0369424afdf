/** Boundary cases of promises 25 to 39 and of BOX, MAY TOUCH, TOUCH, WAY ("Terms"), sentence by sentence. */
public final class EdgeBodiesTest {
    private static final Due due = new Due();
    private static final Edge edge = new Edge(due);

    /** Three bodies: the first two have one place in common, the third lies off; a fourth has no dots. */
    private static final String FOUR = "mask ##/##;mask .;body 0 0 0;body 0 1 1;body 0 9 0;body 1 0 0";

    public static void main(String[] args) {
        bodyWhat();
        common();
        meet();
        mayTouch();
        contact();
        sieve();
        touching();
        at();
        firstUpTo300();
        firstOfTwo();
        reachFar();
        reachWhoStops();
        gapUpTo500();
        gapWays();
        apart();
        apartOfSeveral();
        best();
        bestOfSeveral();
        bestWithoutDots();
        slope();
        rayFar();
        rayFirstStep();
        seenMiddles();
        seenThird();
        nothingThere();
        due.close();
    }

    private static void bodyWhat() {
        String field = "mask #;mask ##;body 1 -999 999 flip 3 layer 15 0 moves -20 20;body 0 0 0";
        int[][] want = {{1, -999, 999, 3, 15, 0, -20, 20}, {0, 0, 0, 0, 1, 1, 0, 0}};
        for (int body = 0; body <= 1; body++) {
            for (int what = 0; what <= 7; what++) {
                int b = body;
                int w = what;
                edge.still(field, "body " + b + " what " + w, x -> x.body(b, w), want[b][w]);
            }
        }
        edge.still(field, "body what -1", x -> x.body(0, -1), -2000);
        edge.still(field, "body what 8", x -> x.body(0, 8), -2000);
        edge.still(field, "body -1", x -> x.body(-1, 0), -2000);
        edge.still(field, "body 2", x -> x.body(2, 0), -2000);
    }

    private static void common() {
        int[][] want = {{0, 1, 1}, {1, 0, 1}, {0, 2, 0}, {0, 3, 0}, {3, 0, 0}, {0, 0, -1}, {3, 3, -1}, {-1, 0, -1}, {0, -1, -1},
            {4, 0, -1}, {0, 4, -1}};
        for (int[] w : want) {
            edge.still(FOUR, "common " + w[0] + " " + w[1], x -> x.common(w[0], w[1]), w[2]);
        }
        edge.still("mask #;body 0 0 0 layer 0 0;body 0 0 0 layer 0 0", "common, though none sees", x -> x.common(0, 1), 1);
        edge.still("mask box 100 40;body 0 0 0;body 0 0 0", "common of the largest", x -> x.common(0, 1), 4000);
        // Side by side and corner to corner, by one place more and by none.
        int[][] moved = {{99, 39, 1}, {100, 39, 0}, {99, 40, 0}, {-99, -39, 1}, {-100, 0, 0}, {0, -40, 0}, {99, -39, 1},
            {98, 38, 4}, {63, 0, 37 * 40}, {64, 0, 36 * 40}, {65, 0, 35 * 40}, {-63, 0, 37 * 40}, {-64, 0, 36 * 40},
            {-65, 1, 35 * 39}};
        for (int[] m : moved) {
            MaskTouch x = Due.field("mask box 100 40;body 0 0 0;body 0 " + m[0] + " " + m[1]);
            due.is("common by " + m[0] + ", " + m[1], x.common(0, 1), m[2]);
            due.is("common by " + m[0] + ", " + m[1] + ", back", x.common(1, 0), m[2]);
            due.is("touch by " + m[0] + ", " + m[1], x.touching(0), m[2] > 0 ? 2 : 0);
        }
        MaskTouch far = Due.field("mask #;body 0 -999 -999;body 0 999 999");
        due.is("common of both ends", far.common(0, 1), 0);
    }

    private static void meet() {
        int[][] want = {{0, 1, 0, 1}, {0, 1, 1, 1}, {1, 0, 0, 1}, {0, 1, 2, -2000}, {0, 1, -1, -2000}, {0, 2, 0, -2000},
            {0, 2, 1, -2000}, {0, 3, 0, -2000}, {3, 0, 1, -2000}, {-1, 0, 0, -2000}, {0, -1, 0, -2000}, {4, 0, 0, -2000},
            {0, 4, 0, -2000}};
        for (int[] w : want) {
            edge.still(FOUR, "meet " + w[0] + " " + w[1] + " what " + w[2], x -> x.meet(w[0], w[1], w[2]), w[3]);
        }
        // The least y ahead of the least x.
        MaskTouch x = Due.field("mask ..#/#..;body 0 0 0;body 0 0 0");
        due.is("meet: the least y", x.meet(0, 1, 1), 0);
        due.is("meet: its x", x.meet(0, 1, 0), 2);
        MaskTouch y = Due.field("mask #.#;body 0 -999 -999;body 0 -999 -999");
        due.is("meet: the least x", y.meet(0, 1, 0), -999);
        // Boxes that share places where dots share none.
        edge.still("mask #./.#;mask .#/#.;body 0 0 0;body 1 0 0", "meet not within boxes", t -> t.meet(0, 1, 0), -2000);
        for (int at : new int[] {0, 1, 62, 63, 64, 65, 98, 99}) {
            MaskTouch w = Due.field("mask box 100 1;mask #;body 0 0 5;body 1 " + at + " 5");
            due.is("meet at " + at, w.meet(0, 1, 0), at);
            due.is("meet at " + at + ", back", w.meet(1, 0, 0), at);
            due.is("meet at " + at + ": y", w.meet(1, 0, 1), 5);
        }
    }

    /** One has a layer of its own that the other one sees: one of both is enough. */
    private static void mayTouch() {
        for (int a = 0; a < 256; a += 5) {
            for (int b = 0; b < 256; b += 7) {
                boolean may = ((a >> 4) & b & 15) != 0 || ((b >> 4) & a & 15) != 0;
                MaskTouch x = Due.field("mask #;body 0 0 0 layer " + (a >> 4) + " " + (a & 15) + ";body 0 0 0 layer "
                    + (b >> 4) + " " + (b & 15));
                due.is("may touch " + a + " " + b, x.sieve(0), may ? 1 : 0);
                due.is("touch " + a + " " + b, x.touching(1), may ? 1 : 0);
            }
        }
        for (int bit = 1; bit <= 8; bit *= 2) {
            for (int other = 1; other <= 8; other *= 2) {
                MaskTouch x = Due.field("mask #;body 0 0 0 layer " + bit + " 0;body 0 0 0 layer 0 " + other);
                due.is("own " + bit + " seen by " + other, x.touching(0), bit == other ? 2 : 0);
                due.is("own " + bit + " seen by " + other + ", back", x.touching(1), bit == other ? 1 : 0);
            }
        }
        MaskTouch both = Due.field("mask #;body 0 0 0 layer 3 0;body 0 0 0 layer 3 0");
        due.is("of one layer, but none sees", both.touching(0), 0);
        MaskTouch see = Due.field("mask #;body 0 0 0 layer 0 15;body 0 0 0 layer 0 15");
        due.is("both see, but have none", see.touching(0), 0);
    }

    private static void contact() {
        String field = "mask ##;body 0 0 0;body 0 1 0;body 0 2 0;body 0 0 0 layer 2 2;body 0 3 0";
        int[] want = {1, 102, 204};
        for (int k = 0; k < 3; k++) {
            int n = k;
            edge.still(field, "contact " + k, x -> x.contact(n), want[n]);
        }
        edge.still(field, "contact 3", x -> x.contact(3), -2);
        edge.still(field, "contacts", x -> x.contact(-1), 3);
        edge.still(field, "contact -2", x -> x.contact(-2), -1);
        edge.still("mask #;body 0 0 0", "contacts of one", x -> x.contact(-1), 0);
        edge.still("mask #;body 0 0 0", "contact 0 of one", x -> x.contact(0), -2);
        edge.still("", "contacts of none", x -> x.contact(-1), 0);
        edge.still("", "contact 0 of none", x -> x.contact(0), -2);
        edge.still("", "contact -2 of none", x -> x.contact(-2), -1);
        MaskTouch all = Due.field("mask #" + ";body 0 0 0".repeat(10));
        due.is("contacts of ten", all.contact(-1), 45);
        due.is("the first of 45", all.contact(0), 1);
        due.is("the ninth of 45", all.contact(8), 9);
        due.is("the tenth of 45", all.contact(9), 102);
        due.is("the last of 45", all.contact(44), 809);
        due.is("behind the last of 45", all.contact(45), -2);
    }

    private static void sieve() {
        // Boxes of #./.# side by side share a place as soon as one place is common to both.
        String field = "mask #./.#;mask ..;body 0 0 0;body 0 1 0;body 0 2 0;body 1 0 0;body 0 0 0 layer 2 2";
        edge.still(field, "sieve -1", x -> x.sieve(-1), -1);
        edge.still(field, "sieve 0", x -> x.sieve(0), 6);
        edge.still(field, "sieve 1", x -> x.sieve(1), 2);
        edge.still(field, "sieve 2", x -> x.sieve(2), 0);
        edge.still(field, "sieve 3", x -> x.sieve(3), -1);
        for (int what = 0; what <= 2; what++) {
            int w = what;
            edge.still("", "sieve " + w + " of none", x -> x.sieve(w), 0);
            edge.still("mask #;body 0 0 0", "sieve " + w + " of one", x -> x.sieve(w), 0);
            edge.still("mask #" + ";body 0 0 0".repeat(10), "sieve " + w + " of ten", x -> x.sieve(w), 45);
        }
        edge.still("", "sieve 3 of none", x -> x.sieve(3), -1);
        // The box is that of its dots, not of its mask; without dots there is none.
        int[][] moved = {{0, 0, 1}, {1, 0, 1}, {2, 0, 0}, {-1, 0, 1}, {-2, 0, 0}, {0, 1, 1}, {0, 2, 0}, {0, -1, 1}, {0, -2, 0},
            {1, 1, 1}, {2, 1, 0}, {-1, -1, 1}};
        for (int[] m : moved) {
            MaskTouch x = Due.field("mask ....../..##../..##../......;body 0 0 0;body 0 " + m[0] + " " + m[1]);
            due.is("boxes by " + m[0] + ", " + m[1], x.sieve(1), m[2]);
        }
        edge.still("mask #;mask .;body 0 0 0;body 1 0 0", "no box without dots", x -> x.sieve(1), 0);
        edge.still("mask .;body 0 0 0;body 0 0 0", "no boxes without dots", x -> x.sieve(1), 0);
        // A flipped one's box lies as its dots lie.
        edge.still("mask #..;body 0 0 0;body 0 0 0 flip 1", "boxes of a flipped one", x -> x.sieve(1), 0);
        edge.still("mask #..;body 0 2 0;body 0 0 0 flip 1", "boxes of a flipped one, on it", x -> x.sieve(1), 1);
        edge.still("mask #/.;body 0 0 1;body 0 0 0 flip 2", "boxes of one flipped in y", x -> x.sieve(1), 1);
    }

    private static void touching() {
        int[] want = {2, 1, 0, 0};
        for (int body = 0; body < 4; body++) {
            int b = body;
            edge.still(FOUR, "touching " + b, x -> x.touching(b), want[b]);
        }
        edge.still(FOUR, "touching -1", x -> x.touching(-1), -1);
        edge.still(FOUR, "touching 4", x -> x.touching(4), -1);
        MaskTouch all = Due.field("mask #" + ";body 0 0 0".repeat(10));
        for (int b = 0; b < 10; b++) {
            due.is("touching of ten, " + b, all.touching(b), 1023 - (1 << b));
        }
    }

    private static void at() {
        edge.still(FOUR, "at both", x -> x.at(1, 1), 3);
        edge.still(FOUR, "at the first", x -> x.at(0, 0), 1);
        edge.still(FOUR, "at the second", x -> x.at(2, 2), 2);
        edge.still(FOUR, "at none", x -> x.at(2, 0), 0);
        edge.still(FOUR, "beside", x -> x.at(-1, 0), 0);
        edge.still(FOUR, "above", x -> x.at(0, -1), 0);
        edge.still(FOUR, "right of the third", x -> x.at(11, 0), 0);
        edge.still(FOUR, "at the third's end", x -> x.at(10, 1), 4);
        edge.still("", "at of nothing", x -> x.at(0, 0), 0);
        MaskTouch all = Due.field("mask #" + ";body 0 3 -3 layer 0 0".repeat(10));
        due.is("at ten", all.at(3, -3), 1023);
        // The largest mask at the ends: its dots reach farther than any place that may be told.
        MaskTouch x = Due.field("mask box 100 40;body 0 999 999;body 0 -999 -999");
        due.is("at the farthest", x.at(1098, 1038), 1);
        due.is("at beyond in x", x.at(1099, 1038), 0);
        due.is("at beyond in y", x.at(1098, 1039), 0);
        due.is("at the nearest", x.at(-999, -999), 2);
        due.is("at before", x.at(-1000, -999), 0);
        for (int far : new int[] {Integer.MIN_VALUE, Integer.MIN_VALUE + 999, Integer.MAX_VALUE, Integer.MAX_VALUE - 998}) {
            due.is("at far off in x " + far, x.at(far, 999), 0);
            due.is("at far off in y " + far, x.at(999, far), 0);
            due.is("at far off in both " + far, x.at(far, far), 0);
        }
    }

    // ---- along ways

    private static void firstUpTo300() {
        String field = "mask #;body 0 -300 0 moves 2 0;body 0 300 0 moves 0 0";
        edge.still(field, "first 299", x -> x.first(0, 1, 299), -2);
        edge.still(field, "first 300", x -> x.first(0, 1, 300), 300);
        edge.still(field, "first 301", x -> x.first(0, 1, 301), -1);
        edge.still(field, "first 300, back", x -> x.first(1, 0, 300), 300);
        edge.still(field, "first -1", x -> x.first(0, 1, -1), -1);
        edge.still(field, "first 0", x -> x.first(0, 1, 0), -2);
        edge.still(FOUR, "first 0, now", x -> x.first(0, 1, 0), 0);
        edge.still(FOUR, "first 300, now", x -> x.first(0, 1, 300), 0);
        edge.still(FOUR, "first -1, now", x -> x.first(0, 1, -1), -1);
        edge.still(FOUR, "first of itself", x -> x.first(0, 0, 0), -1);
        edge.still(FOUR, "first of body -1", x -> x.first(-1, 0, 0), -1);
        edge.still(FOUR, "first with body -1", x -> x.first(0, -1, 0), -1);
        edge.still(FOUR, "first of body 4", x -> x.first(4, 0, 0), -1);
        edge.still(FOUR, "first with body 4", x -> x.first(0, 4, 0), -1);
        edge.still(FOUR, "first with one without dots", x -> x.first(0, 3, 300), -2);
    }

    private static void firstOfTwo() {
        // Beyond 999 they go on: the second leads, the first is faster by 20.
        edge.still("mask #;body 0 -999 0 moves 20 0;body 0 999 0 moves 10 0", "first beyond 999", x -> x.first(0, 1, 300), -2);
        edge.still("mask ####################;body 0 -999 0 moves 20 0;body 0 999 0 moves 10 0", "first beyond 999, longer",
            x -> x.first(0, 1, 300), 198);
        edge.still("mask #;body 0 -999 -999 moves 20 20;body 0 961 961 moves -20 -20", "first at full speed",
            x -> x.first(0, 1, 300), 49);
        // Jumped over: a TICK is one move, not STEP by STEP.
        edge.still("mask #;body 0 0 0 moves 2 0;body 0 3 0", "first, jumped over", x -> x.first(0, 1, 300), -2);
        edge.still("mask #;body 0 0 0 moves 3 0;body 0 3 0", "first, just", x -> x.first(0, 1, 300), 1);
        // Whatever is in their ways, and only if they may touch.
        edge.still("mask #;body 0 0 0 moves 1 0;body 0 9 0;body 0 4 0", "first through a third", x -> x.first(0, 1, 300), 9);
        edge.still("mask #;body 0 0 0 moves 1 0;body 0 9 0 layer 2 2", "first of unseen ones", x -> x.first(0, 1, 300), -2);
        edge.still("mask #;body 0 0 0;body 0 9 0", "first of ones at rest", x -> x.first(0, 1, 300), -2);
    }

    private static void reachFar() {
        for (int n : new int[] {-200, -199, 199, 200}) {
            edge.still(FOUR, "reach dx " + n, x -> x.reach(3, n, 0, 0), Math.abs(n));
            edge.still(FOUR, "reach dy " + n, x -> x.reach(3, 0, n, 0), Math.abs(n));
        }
        for (int n : new int[] {-201, 201}) {
            edge.still(FOUR, "reach dx " + n, x -> x.reach(3, n, 0, 0), -1);
            edge.still(FOUR, "reach dy " + n, x -> x.reach(3, 0, n, 1), -1);
        }
        edge.still(FOUR, "reach by nothing", x -> x.reach(0, 0, 0, 0), 0);
        edge.still(FOUR, "reach by nothing: who", x -> x.reach(0, 0, 0, 1), -2);
        edge.still(FOUR, "reach what -1", x -> x.reach(0, 1, 0, -1), -1);
        edge.still(FOUR, "reach what 2", x -> x.reach(0, 1, 0, 2), -1);
        edge.still(FOUR, "reach of body -1", x -> x.reach(-1, 1, 0, 0), -1);
        edge.still(FOUR, "reach of body 4", x -> x.reach(4, 1, 0, 0), -1);
    }

    private static void reached(String field, int dx, int dy, int steps, int who) {
        edge.still(field, "reach " + dx + ", " + dy, x -> x.reach(0, dx, dy, 0), steps);
        edge.still(field, "reach " + dx + ", " + dy + ": who", x -> x.reach(0, dx, dy, 1), who);
    }

    private static void reachWhoStops() {
        String field = "mask #;body 0 0 0;body 0 5 0;body 0 5 0;body 0 0 5 layer 2 2";
        reached(field, 3, 0, 3, -2);
        reached(field, 4, 0, 4, -2);
        reached(field, 5, 0, 4, 1);
        reached(field, 200, 0, 4, 1);
        reached(field, 0, 9, 9, -2);
        reached("mask #;body 0 0 0;body 0 1 0", 1, 0, 0, 1);
        // The least of those that stop it, whatever order they are told in and however near.
        reached("mask #/#;mask #;body 0 0 0;body 1 3 1;body 1 2 0", 9, 0, 1, 2);
        reached("mask #/#;mask #;body 0 0 0;body 1 2 1;body 1 2 0", 9, 0, 1, 1);
        // One that it touches as it sets out stops it never.
        reached("mask #..#;mask #;body 1 0 0;body 0 0 0;body 1 6 0", 9, 0, 5, 2);
        // The ends stop it, and no body does.
        reached("mask #;body 0 999 0;body 0 5 5", 1, 0, 0, -2);
        reached("mask #;body 0 998 0", 2, 0, 1, -2);
        reached("mask #;body 0 -999 0", -1, 0, 0, -2);
        reached("mask #;body 0 0 -998", 0, -9, 1, -2);
        // What stopped it in one call stops it no more in the next.
        MaskTouch again = Due.field("mask #;body 0 0 0;body 0 1 0");
        due.is("reach: who", again.reach(0, 5, 0, 1), 1);
        due.is("reach by nothing then: who", again.reach(0, 0, 0, 1), -2);
        due.is("reach another way then: who", again.reach(0, -5, 0, 1), -2);
        // A way that leads aside later on: what lies straight below stops it all the same.
        for (int aside = -1; aside <= 1; aside++) {
            reached("mask #;body 0 0 0;body 0 0 1", aside, 9, 0, 1);
            reached("mask #;body 0 0 0;body 0 0 -1", aside, -9, 0, 1);
            reached("mask #;body 0 0 0;body 0 1 0", 9, aside, 0, 1);
            reached("mask #;body 0 0 0;body 0 -1 0", -9, aside, 0, 1);
        }
        // It is told as slide() does it.
        MaskTouch x = Due.field("mask #;body 0 0 0;body 0 7 3");
        int steps = x.reach(0, 14, 6, 0);
        due.is("reach as slide", x.slide(0, 14, 6), steps);
    }

    private static void gapUpTo500() {
        edge.still("mask #;body 0 0 0;body 0 499 0", "gap 499", x -> x.gap(0, 1, 0), 499);
        edge.still("mask #;body 0 0 0;body 0 500 0", "gap 500", x -> x.gap(0, 1, 0), 500);
        edge.still("mask #;body 0 0 0;body 0 501 0", "gap 501", x -> x.gap(0, 1, 0), -2);
        edge.still("mask #;body 0 0 0;body 0 -500 0", "gap 500 left", x -> x.gap(0, 1, 1), 500);
        edge.still("mask #;body 0 0 0;body 0 -501 0", "gap 501 left", x -> x.gap(0, 1, 1), -2);
        edge.still("mask #;body 0 0 0;body 0 0 500", "gap 500 down", x -> x.gap(0, 1, 2), 500);
        edge.still("mask #;body 0 0 0;body 0 0 501", "gap 501 down", x -> x.gap(0, 1, 2), -2);
        edge.still("mask #;body 0 0 0;body 0 0 -500", "gap 500 up", x -> x.gap(0, 1, 3), 500);
        edge.still("mask #;body 0 0 0;body 0 0 -501", "gap 501 up", x -> x.gap(0, 1, 3), -2);
        edge.still(FOUR, "gap 0", x -> x.gap(0, 1, 0), 0);
        edge.still("mask #;body 0 0 0;body 0 1 0", "gap 1", x -> x.gap(0, 1, 0), 1);
        // Beyond 999 it goes on.
        edge.still("mask box 100 1;mask #;body 1 999 0;body 0 999 0", "gap at the end", x -> x.gap(0, 1, 0), 0);
        edge.still("mask " + ".".repeat(99) + "#;mask #;body 1 999 0;body 0 999 0", "gap beyond the end", x -> x.gap(0, 1, 0), 99);
        edge.still("mask #;mask ./#;body 0 0 999;body 1 0 999", "gap beyond the end below", x -> x.gap(0, 1, 2), 1);
    }

    private static void gapWays() {
        for (int way = 0; way <= 3; way++) {
            for (int to = 0; to <= 3; to++) {
                int w = way;
                int[][] at = {{7, 0}, {-7, 0}, {0, 7}, {0, -7}};
                edge.still("mask #;body 0 0 0;body 0 " + at[to][0] + " " + at[to][1], "gap way " + w,
                    x -> x.gap(0, 1, w), way == to ? 7 : -2);
            }
        }
        edge.still(FOUR, "gap way -1", x -> x.gap(0, 1, -1), -1);
        edge.still(FOUR, "gap way 4", x -> x.gap(0, 1, 4), -1);
        edge.still(FOUR, "gap of itself", x -> x.gap(0, 0, 0), -1);
        edge.still(FOUR, "gap of body -1", x -> x.gap(-1, 0, 0), -1);
        edge.still(FOUR, "gap to body -1", x -> x.gap(0, -1, 0), -1);
        edge.still(FOUR, "gap of body 4", x -> x.gap(4, 0, 0), -1);
        edge.still(FOUR, "gap to body 4", x -> x.gap(0, 4, 0), -1);
        edge.still(FOUR, "gap to one without dots", x -> x.gap(0, 3, 0), -2);
        edge.still(FOUR, "gap to the third", x -> x.gap(0, 2, 0), 8);
        edge.still("mask #;body 0 0 0;body 0 5 0 layer 2 2", "gap to an unseen one", x -> x.gap(0, 1, 0), -2);
        edge.still("mask #;body 0 0 0;body 0 5 0;body 0 2 0", "gap through a third", x -> x.gap(0, 1, 0), 5);
    }

    // ---- the nearest and the best place

    private static void nearest(String field, int far, int dx, int dy) {
        edge.still(field, "apart", x -> x.apart(0, 1, 0), far);
        edge.still(field, "apart in x", x -> x.apart(0, 1, 1), dx);
        edge.still(field, "apart in y", x -> x.apart(0, 1, 2), dy);
    }

    private static void apart() {
        nearest("mask #;body 0 0 0;body 0 1 0", 0, 0, 0);
        nearest("mask #;mask .;body 0 0 0;body 1 0 0", 0, 0, 0);
        nearest("mask #;mask .;body 1 0 0;body 0 0 0", 0, 0, 0);
        nearest("mask #./.#;mask .#/#.;body 0 0 0;body 1 0 0", 0, 0, 0);
        nearest("mask #;body 0 0 0 layer 0 0;body 0 0 0 layer 0 0", 1, 0, -1);
        nearest("mask box 100 40;body 0 0 0;body 0 0 0", 40, 0, -40);
        nearest("mask box 100 40;body 0 0 1;body 0 0 0", 39, 0, 39);
        nearest("mask box 40 40;body 0 0 0;body 0 0 0", 40, 0, -40);
        nearest("mask box 39 40;body 0 0 0;body 0 0 0", 39, -39, 0);
        nearest("mask box 39 40;body 0 1 0;body 0 0 0", 38, 38, 0);
        nearest("mask box 9 9;body 0 0 0;body 0 8 8", 1, 0, -1);
        nearest("mask box 9 9;body 0 0 0;body 0 -8 -8", 1, 1, 0);
        // Any numbers: beyond -999, too.
        nearest("mask box 100 40;body 0 -999 -999;body 0 -999 -999", 40, 0, -40);
        edge.still(FOUR, "apart what -1", x -> x.apart(0, 1, -1), -2000);
        edge.still(FOUR, "apart what 3", x -> x.apart(0, 1, 3), -2000);
        edge.still(FOUR, "apart of itself", x -> x.apart(0, 0, 0), -2000);
        edge.still(FOUR, "apart of body -1", x -> x.apart(-1, 0, 0), -2000);
        edge.still(FOUR, "apart from body -1", x -> x.apart(0, -1, 0), -2000);
        edge.still(FOUR, "apart of body 4", x -> x.apart(4, 0, 0), -2000);
        edge.still(FOUR, "apart from body 4", x -> x.apart(0, 4, 0), -2000);
    }

    private static void apartOfSeveral() {
        // One STEP: up ahead of left, left ahead of right, right ahead of down.
        nearest("mask #;body 0 0 0;body 0 0 0", 1, 0, -1);
        nearest("mask #;mask .#./.#./...;body 0 1 1;body 1 0 0", 1, -1, 0);
        nearest("mask #;mask .#./##./...;body 0 1 1;body 1 0 0", 1, 1, 0);
        nearest("mask #;mask .#./###/...;body 0 1 1;body 1 0 0", 1, 0, 1);
        // Two STEPS: 0, -2, then -1, -1, then 1, -1, then -2, 0, then 2, 0, then -1, 1, then 1, 1, then 0, 2.
        String[] rows = {"..#..", ".###.", "#####", ".###.", "..#.."};
        int[][] order = {{0, -2}, {-1, -1}, {1, -1}, {-2, 0}, {2, 0}, {-1, 1}, {1, 1}, {0, 2}};
        for (int free = 0; free < order.length; free++) {
            StringBuilder form = new StringBuilder("mask #;mask ");
            for (int y = 0; y < 5; y++) {
                for (int x = 0; x < 5; x++) {
                    boolean open = false;
                    for (int later = free; later < order.length; later++) {
                        open |= order[later][0] == x - 2 && order[later][1] == y - 2;
                    }
                    form.append(open ? '.' : rows[y].charAt(x));
                }
                form.append(y < 4 ? "/" : ";body 0 2 2;body 1 0 0");
            }
            nearest(form.toString(), 2, order[free][0], order[free][1]);
        }
    }

    private static void bestIs(String field, int many, int px, int py) {
        edge.still(field, "best", x -> x.best(0, 1, 0), many);
        edge.still(field, "best x", x -> x.best(0, 1, 1), px);
        edge.still(field, "best y", x -> x.best(0, 1, 2), py);
    }

    private static void best() {
        bestIs("mask #;body 0 -7 8;body 0 5 -6", 1, 5, -6);
        bestIs("mask box 100 40;body 0 -7 8;body 0 5 -6", 4000, 5, -6);
        bestIs("mask #;body 0 0 0 layer 0 0;body 0 5 5 layer 0 0", 1, 5, 5);
        bestIs("mask #.;body 0 0 0 flip 1;body 0 5 5", 1, 4, 5);
        // Any numbers: beyond -999 and 999.
        bestIs("mask .#/##;mask #;body 0 0 0;body 1 -999 -999", 1, -1000, -1000);
        bestIs("mask #;mask " + ".".repeat(99) + "#;body 0 0 0;body 1 999 999", 1, 1098, 999);
        bestIs("mask #;mask " + "./".repeat(39) + "#;body 0 0 0;body 1 999 999", 1, 999, 1038);
        edge.still(FOUR, "best what -1", x -> x.best(0, 1, -1), -2000);
        edge.still(FOUR, "best what 3", x -> x.best(0, 1, 3), -2000);
        edge.still(FOUR, "best on itself", x -> x.best(0, 0, 0), -2000);
        edge.still(FOUR, "best of body -1", x -> x.best(-1, 0, 0), -2000);
        edge.still(FOUR, "best on body -1", x -> x.best(0, -1, 0), -2000);
        edge.still(FOUR, "best of body 4", x -> x.best(4, 0, 0), -2000);
        edge.still(FOUR, "best on body 4", x -> x.best(0, 4, 0), -2000);
    }

    private static void bestOfSeveral() {
        // Each place of the second will do for the one dot: the least y, then the least x.
        bestIs("mask #;mask .##/###;body 0 9 9;body 1 0 0", 1, 1, 0);
        bestIs("mask .##/###;mask #;body 0 9 9;body 1 0 0", 1, -2, -1);
        bestIs("mask ##;mask ####/####;body 0 9 9;body 1 0 0", 2, 0, 0);
        bestIs("mask ##;mask #.##/##..;body 0 9 9;body 1 0 0", 2, 2, 0);
        bestIs("mask #/#;mask #../##./.#.;body 0 9 9;body 1 0 0", 2, 0, 0);
        bestIs("mask box 100 40;mask box 99 39;body 0 9 9;body 1 0 0", 99 * 39, -1, -1);
        bestIs("mask box 99 39;mask box 100 40;body 0 9 9;body 1 0 0", 99 * 39, 0, 0);
        bestIs("mask #" + ".".repeat(98) + "#;body 0 9 9;body 0 0 0", 2, 0, 0);
        // Places that could have more in common by their boxes, but have just as many.
        bestIs("mask #.#;mask #...#;body 0 9 9;body 1 0 0", 1, -2, 0);
        bestIs("mask #/./#;mask #/././././#;body 0 9 9;body 1 0 0", 1, 0, -2);
        bestIs("mask #.#/#.#;mask ##/##;body 0 9 9;body 1 0 0", 2, -2, 0);
    }

    private static void bestWithoutDots() {
        bestIs("mask .;mask #;body 0 -7 8;body 1 5 -6", 0, -7, 8);
        bestIs("mask .;mask #;body 1 -7 8;body 0 5 -6", 0, -7, 8);
        bestIs("mask .;body 0 -999 999;body 0 5 -6", 0, -999, 999);
        MaskTouch x = Due.field("mask .;mask ##/##;body 1 1 1;body 1 1 1;body 0 4 5");
        due.is("best of two", x.best(0, 1, 0), 4);
        due.is("best with one without dots, then", x.best(0, 2, 0), 0);
        due.is("apart of two", x.apart(0, 1, 0), 2);
        due.is("best of one without dots, then", x.best(2, 0, 0), 0);
        due.is("best of one without dots, then: y", x.best(2, 0, 2), 5);
        due.is("apart of one without dots, then", x.apart(2, 0, 0), 0);
    }

    private static void slope() {
        edge.still("mask #;body 0 0 0;body 0 1 0", "slope towards", x -> x.slope(0, 1, 0), 1);
        edge.still("mask #;body 0 0 0;body 0 -1 0", "slope away", x -> x.slope(0, 1, 0), -1);
        edge.still("mask #;body 0 0 0;body 0 0 1", "slope towards in y", x -> x.slope(0, 1, 1), 1);
        edge.still("mask #;body 0 0 0;body 0 0 -1", "slope away in y", x -> x.slope(0, 1, 1), -1);
        edge.still("mask #;body 0 0 0;body 0 0 0", "slope on one another", x -> x.slope(0, 1, 0), 0);
        edge.still("mask #;body 0 0 0;body 0 2 0", "slope two off", x -> x.slope(0, 1, 0), 0);
        edge.still("mask #;body 0 0 0;body 0 1 0", "slope beside, in y", x -> x.slope(0, 1, 1), 0);
        edge.still("mask #;body 0 0 0 layer 0 0;body 0 1 0", "slope to an unseen one", x -> x.slope(0, 1, 0), 1);
        edge.still("mask box 100 40;body 0 0 0;body 0 50 0", "slope of the largest", x -> x.slope(0, 1, 0), 80);
        edge.still("mask box 100 40;body 0 0 0;body 0 0 20", "slope of the largest in y", x -> x.slope(0, 1, 1), 200);
        edge.still("mask box 100 40;body 0 0 0;body 0 100 0", "slope of the largest, just off", x -> x.slope(0, 1, 0), 40);
        edge.still("mask box 100 40;body 0 0 0;body 0 101 0", "slope of the largest, off", x -> x.slope(0, 1, 0), 0);
        // One farther than 999 counts as any other place.
        edge.still("mask #;mask .#;body 0 999 0;body 1 999 0", "slope at the end", x -> x.slope(0, 1, 0), 1);
        edge.still("mask #;body 0 -999 -999;body 0 -998 -999", "slope at the other end", x -> x.slope(0, 1, 0), 1);
        edge.still(FOUR, "slope with one without dots", x -> x.slope(0, 3, 0), 0);
        edge.still(FOUR, "slope what -1", x -> x.slope(0, 1, -1), -2000000);
        edge.still(FOUR, "slope what 2", x -> x.slope(0, 1, 2), -2000000);
        edge.still(FOUR, "slope of itself", x -> x.slope(0, 0, 0), -2000000);
        edge.still(FOUR, "slope of body -1", x -> x.slope(-1, 0, 0), -2000000);
        edge.still(FOUR, "slope with body -1", x -> x.slope(0, -1, 0), -2000000);
        edge.still(FOUR, "slope of body 4", x -> x.slope(4, 0, 0), -2000000);
        edge.still(FOUR, "slope with body 4", x -> x.slope(0, 4, 0), -2000000);
    }

    // ---- rays and sight

    private static void rayFar() {
        String field = "mask #;body 0 0 0;body 0 0 0";
        for (int n : new int[] {-9999, -9998, 9998, 9999}) {
            edge.still(field, "ray x " + n, x -> x.ray(n, 0, 1, 0), -2);
            edge.still(field, "ray y " + n, x -> x.ray(0, n, 1, 0), -2);
        }
        for (int n : new int[] {-10000, 10000}) {
            edge.still(field, "ray x " + n, x -> x.ray(n, 0, 1, 0), -1);
            edge.still(field, "ray y " + n, x -> x.ray(0, n, 1, 0), -1);
        }
        for (int n : new int[] {-301, 301}) {
            edge.still(field, "ray dx " + n, x -> x.ray(0, 0, n, 0), -1);
            edge.still(field, "ray dy " + n, x -> x.ray(0, 0, 0, n), -1);
        }
        int[][] ways = {{1, 0}, {-1, 0}, {0, 1}, {0, -1}, {1, 1}, {-1, 1}};
        for (int[] w : ways) {
            edge.still(field, "ray of 300 to 300", x -> x.ray(-300 * w[0], -300 * w[1], 300 * w[0], 300 * w[1]), 30000);
            edge.still(field, "ray of 299 to 300", x -> x.ray(-300 * w[0], -300 * w[1], 299 * w[0], 299 * w[1]), -2);
            edge.still(field, "ray of 300 to 301", x -> x.ray(-301 * w[0], -301 * w[1], 300 * w[0], 300 * w[1]), -2);
        }
        edge.still("", "ray of nothing", x -> x.ray(0, 0, 300, 300), -2);
        edge.still("", "ray of nothing, too far", x -> x.ray(0, 0, 301, 300), -1);
    }

    private static void rayFirstStep() {
        String field = "mask ##;body 0 5 0;body 0 4 0 layer 0 0;body 0 4 0";
        edge.still(field, "ray from beside", x -> x.ray(0, 0, 9, 0), 401);
        edge.still(field, "ray from within", x -> x.ray(5, 0, 9, 0), 0);
        edge.still(field, "ray from within the second", x -> x.ray(4, 0, 9, 0), 1);
        edge.still(field, "ray by nothing, within", x -> x.ray(4, 0, 0, 0), 1);
        edge.still(field, "ray by nothing, beside", x -> x.ray(3, 0, 0, 0), -2);
        edge.still(field, "ray that ends ahead of it", x -> x.ray(0, 0, 3, 0), -2);
        edge.still(field, "ray that ends on it", x -> x.ray(0, 0, 4, 0), 401);
        edge.still(field, "ray that ends behind it", x -> x.ray(7, 0, 9, 0), -2);
        edge.still(field, "ray from the right", x -> x.ray(9, 0, -9, 0), 300);
        StringBuilder text = new StringBuilder("mask #");
        for (int i = 9; i >= 0; i--) {
            text.append(";body 0 ").append(i).append(" 0");
        }
        edge.still(text.toString(), "ray to the last body", x -> x.ray(-1, 0, 5, 0), 109);
        // The dots of the largest mask beyond 999 are hit, too.
        edge.still("mask box 100 40;body 0 999 999", "ray beyond 999", x -> x.ray(1398, 1038, -300, 0), 30000);
        // A half goes up: by STEP 1 of 2, -1 it is at 1, 0.
        int[][] halves = {{2, 1, 1, 1}, {2, -1, 1, 0}, {-2, 1, -1, 1}, {-2, -1, -1, 0}, {1, 2, 1, 1}, {-1, 2, 0, 1},
            {1, -2, 1, -1}, {-1, -2, 0, -1}, {300, 150, 1, 1}, {300, -150, 1, 0}, {300, 149, 1, 0}};
        for (int[] h : halves) {
            MaskTouch x = Due.field("mask #;body 0 " + h[2] + " " + h[3]);
            due.is("ray by STEP 1 of " + h[0] + ", " + h[1], x.ray(0, 0, h[0], h[1]), 100);
        }
    }

    private static void seenMiddles() {
        // The middle of 0 to 1 is 0, of -2 to -1 is -2: downwards. A third lies on each place of the column.
        int[][] middles = {{0, 0}, {1, 1}, {-1, -1}, {-2, -2}, {998, 998}, {-999, -999}};
        for (int[] m : middles) {
            MaskTouch x = Due.field("mask ##;mask #;body 0 " + m[0] + " 0;body 1 " + m[1] + " 8;body 1 " + m[1] + " 3");
            due.is("seen from the middle of " + m[0], x.seen(0, 1), 1);
            due.is("seen to the middle of " + m[0], x.seen(1, 0), 1);
            MaskTouch y = Due.field("mask #/#;mask #;body 0 0 " + m[0] + ";body 1 8 " + m[1] + ";body 1 3 " + m[1]);
            due.is("seen from the middle of " + m[0] + " in y", y.seen(0, 1), 1);
            due.is("seen to the middle of " + m[0] + " in y", y.seen(1, 0), 1);
        }
        // The box of the dots counts, as they lie, not the mask.
        MaskTouch x = Due.field("mask ....#;mask #;body 0 0 0 flip 1;body 1 0 8;body 1 0 4;body 1 2 4");
        due.is("seen from a box of dots", x.seen(0, 1), 1);
        x.flip(0, 0);
        x.place(2, 2, 4);
        x.place(3, 9, 9);
        due.is("seen from a box of dots, flipped back", x.seen(0, 1), 1);
        MaskTouch y = Due.field("mask ././././#;mask #;body 0 0 0;body 1 8 0;body 1 4 2;body 1 4 3");
        due.is("seen from a box of dots below", y.seen(0, 1), 1);
        y.flip(0, 2);
        due.is("seen from a box of dots above", y.seen(0, 1), 0);
        y.place(2, 4, 0);
        due.is("seen from a box of dots above, on a third", y.seen(0, 1), 1);
    }

    private static void seenThird() {
        String field = "mask #;mask .;mask ###;body 0 0 0;body 0 4 0;body 1 0 0;body 2 1 0 layer 0 0;body 0 2 0";
        edge.still(field, "seen", x -> x.seen(0, 1), 3);
        edge.still(field, "seen back", x -> x.seen(1, 0), 3);
        edge.still(field, "seen of itself", x -> x.seen(0, 0), -1);
        edge.still(field, "seen of one without dots", x -> x.seen(2, 0), -1);
        edge.still(field, "seen to one without dots", x -> x.seen(0, 2), -1);
        edge.still(field, "seen of body -1", x -> x.seen(-1, 0), -1);
        edge.still(field, "seen to body -1", x -> x.seen(0, -1), -1);
        edge.still(field, "seen of body 5", x -> x.seen(5, 0), -1);
        edge.still(field, "seen to body 5", x -> x.seen(0, 5), -1);
        edge.still("mask #;body 0 0 0;body 0 4 0", "seen without a third", x -> x.seen(0, 1), 0);
        edge.still("mask #;body 0 0 0;body 0 0 0", "seen at one place", x -> x.seen(0, 1), 0);
        edge.still("mask #;body 0 0 0;body 0 0 0;body 0 0 0", "seen at one place with a third", x -> x.seen(0, 1), 1);
        // STEP 0 and the last STEP are on the WAY, too; two thirds on one place are one place.
        edge.still("mask #;body 0 0 0;body 0 4 0;body 0 0 0", "seen with a third where it begins", x -> x.seen(0, 1), 1);
        edge.still("mask #;body 0 0 0;body 0 4 0;body 0 4 0", "seen with a third where it ends", x -> x.seen(0, 1), 1);
        edge.still("mask #;body 0 0 0;body 0 4 0;body 0 -1 0;body 0 5 0", "seen with thirds beyond", x -> x.seen(0, 1), 0);
        edge.still("mask #;body 0 0 0;body 0 4 0;body 0 2 0;body 0 2 0", "seen with two on one place", x -> x.seen(0, 1), 1);
        edge.still("mask #;body 0 2 0;body 0 0 0;body 0 4 0", "seen with the first as the third", x -> x.seen(1, 2), 1);
        edge.still("mask #;body 0 0 0" + ";body 0 2 0".repeat(8) + ";body 0 4 0", "seen of ten", x -> x.seen(0, 9), 1);
        edge.still("mask #;body 0 0 0;body 0 4 0" + ";body 0 9 9".repeat(7) + ";body 0 2 0", "seen with the tenth as the third",
            x -> x.seen(0, 1), 1);
        MaskTouch anew = Due.field("mask #;body 0 0 0;body 0 4 0;body 0 2 0");
        Due.tell(anew, "mask #;body 0 0 0;body 0 4 0");
        due.is("seen with a third that is gone", anew.seen(0, 1), 0);
        due.is("at a third that is gone", anew.at(2, 0), 0);
        due.is("a ray to a third that is gone", anew.ray(2, 0, 0, 9), -2);
        due.is("contacts with a third that is gone", anew.contact(-1), 0);
        due.is("reach past a third that is gone", anew.reach(0, 9, 0, 0), 3);
        edge.still("mask #;body 0 -999 -999;body 0 999 999;body 0 0 0", "seen from end to end", x -> x.seen(0, 1), 1);
        edge.still("mask box 100 40;body 0 -999 0;body 0 999 0;body 0 0 0", "seen through the largest", x -> x.seen(0, 1), 100);
    }

    private static void nothingThere() {
        for (String field : new String[] {"", "mask #", "mask #;body 0 0 0"}) {
            edge.still(field, "common", x -> x.common(0, 1), -1);
            edge.still(field, "meet", x -> x.meet(0, 1, 0), -2000);
            edge.still(field, "first", x -> x.first(0, 1, 1), -1);
            edge.still(field, "gap", x -> x.gap(0, 1, 0), -1);
            edge.still(field, "apart", x -> x.apart(0, 1, 0), -2000);
            edge.still(field, "best", x -> x.best(0, 1, 0), -2000);
            edge.still(field, "slope", x -> x.slope(0, 1, 0), -2000000);
            edge.still(field, "seen", x -> x.seen(0, 1), -1);
            edge.still(field, "body 1", x -> x.body(1, 0), -2000);
            edge.still(field, "touching 1", x -> x.touching(1), -1);
            edge.still(field, "reach 1", x -> x.reach(1, 1, 0, 0), -1);
        }
        edge.still("mask #", "body 0", x -> x.body(0, 0), -2000);
        edge.still("mask #", "touching 0", x -> x.touching(0), -1);
        edge.still("mask #", "reach 0", x -> x.reach(0, 1, 0, 0), -1);
    }
}
