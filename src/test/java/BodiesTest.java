/** Promises 25 to 39: how bodies lie to one another. */
public final class BodiesTest {
    private static final Due due = new Due();

    public static void main(String[] args) {
        told();
        commonPlaces();
        meetings();
        contacts();
        sieves();
        coverings();
        firsts();
        reaches();
        gaps();
        nearestApart();
        bestPlaces();
        slopes();
        rays();
        sights();
        due.close();
    }

    private static void told() {
        MaskTouch x = Due.field("mask #;mask ##;body 1 -2 3 flip 1 layer 4 5 moves -6 7");
        int[] all = {1, -2, 3, 1, 4, 5, -6, 7};
        for (int what = 0; what < 8; what++) {
            due.is("body what " + what, x.body(0, what), all[what]);
        }
        due.is("body what 8", x.body(0, 8), -2000);
        due.is("body what -1", x.body(0, -1), -2000);
        due.is("no body", x.body(1, 0), -2000);
        due.is("body -1", x.body(-1, 0), -2000);
    }

    private static void commonPlaces() {
        MaskTouch x = Due.field("mask box 4 4;mask ##./.##;mask .;body 0 0 0;body 1 2 1;body 1 2 1 flip 1;body 2 0 0;"
            + "body 0 3 -3 layer 0 0;mask box 100 40;body 3 -999 0;body 3 -935 39;body 3 -900 20");
        due.is("common", x.common(0, 1), 3);
        due.is("common, turned round", x.common(1, 0), 3);
        due.is("common with a flipped one", x.common(0, 2), 3);
        due.is("common of two flips", x.common(1, 2), 2);
        due.is("common without dots", x.common(0, 3), 0);
        due.is("common, whoever sees", x.common(0, 4), 1);
        due.is("common of large ones", x.common(5, 6), 36);
        due.is("common of large ones, back", x.common(6, 5), 36);
        due.is("common of larger parts", x.common(5, 7), 20);
        due.is("common by 35", x.common(6, 7), 65 * 21);
        MaskTouch far = Due.field("mask box 100 2;body 0 0 0;body 0 0 1");
        for (int dx = -101; dx <= 101; dx++) {
            far.place(1, dx, 1);
            due.is("common by " + dx, far.common(0, 1), Math.max(0, 100 - Math.abs(dx)));
            due.is("common back by " + dx, far.common(1, 0), Math.max(0, 100 - Math.abs(dx)));
            due.is("touching by " + dx, far.touching(0), Math.abs(dx) < 100 ? 2 : 0);
            due.is("meet by " + dx, far.meet(0, 1, 0), Math.abs(dx) < 100 ? Math.max(dx, 0) : -2000);
        }
        due.is("common with itself", x.common(0, 0), -1);
        due.is("common of no body", x.common(8, 0), -1);
        due.is("common with no body", x.common(0, 8), -1);
        due.is("common of body -1", x.common(-1, 0), -1);
    }

    private static void meetings() {
        MaskTouch x = Due.field("mask .#./###/.#.;body 0 0 0;body 0 1 1;body 0 2 0;body 0 -2 -2;"
            + "mask box 100 40;body 1 500 500;body 1 599 539;body 1 564 500");
        due.is("meet: x", x.meet(0, 1, 0), 2);
        due.is("meet: y", x.meet(0, 1, 1), 1);
        due.is("meet back: x", x.meet(1, 0, 0), 2);
        due.is("meet back: y", x.meet(1, 0, 1), 1);
        due.is("meet at a tip: x", x.meet(0, 2, 0), 2);
        due.is("meet at a tip: y", x.meet(0, 2, 1), 1);
        due.is("meet not, within boxes", x.meet(0, 3, 0), -2000);
        due.is("meet not", x.meet(2, 3, 0), -2000);
        due.is("meet at a corner: x", x.meet(4, 5, 0), 599);
        due.is("meet at a corner: y", x.meet(5, 4, 1), 539);
        due.is("meet by 64: x", x.meet(4, 6, 0), 564);
        due.is("meet by 64, back: x", x.meet(6, 4, 0), 564);
        due.is("meet by 64, back: y", x.meet(6, 4, 1), 500);
        due.is("meet what 2", x.meet(0, 1, 2), -2000);
        due.is("meet what -1", x.meet(0, 1, -1), -2000);
        due.is("meet no body", x.meet(0, 7, 0), -2000);
        due.is("meet of no body", x.meet(7, 0, 0), -2000);
        MaskTouch tall = Due.field("mask frame 9 40;mask frame 7 38;body 0 0 0;body 1 1 1;body 1 1 4");
        due.is("meet not within a frame", tall.meet(0, 1, 0), -2000);
        due.is("meet not within a frame, back", tall.meet(1, 0, 0), -2000);
        due.is("meet at a frame's foot: y", tall.meet(0, 2, 1), 39);
        due.is("meet at a frame's foot: x", tall.meet(2, 0, 0), 1);
        MaskTouch y = Due.field("mask ..#/##.;body 0 5 5;body 0 5 5;body 0 4 5");
        due.is("meet: the least y first", y.meet(0, 1, 1), 5);
        due.is("meet: its x", y.meet(0, 1, 0), 7);
        due.is("meet in the second row: y", y.meet(0, 2, 1), 6);
        due.is("meet in the second row: x", y.meet(0, 2, 0), 5);
        due.is("meet itself: they are not two", y.meet(0, 0, 0), -2000);
    }

    private static void contacts() {
        MaskTouch x = Due.field("mask ##;body 0 0 0;body 0 1 0;body 0 2 0;body 0 0 0 layer 2 2;body 0 2 0 layer 4 1");
        // 0 and 1, 1 and 2, and 4, which sees the others' layer, on 1 and on 2.
        int[] due1 = {1, 102, 104, 204};
        due.is("contacts", x.contact(-1), 4);
        for (int k = 0; k < 4; k++) {
            due.is("contact " + k, x.contact(k), due1[k]);
        }
        due.is("contact 4", x.contact(4), -2);
        due.is("contact far behind", x.contact(Integer.MAX_VALUE), -2);
        due.is("contact -2", x.contact(-2), -1);
        due.is("contact far below", x.contact(Integer.MIN_VALUE), -1);
        due.is("touching 0", x.touching(0), 2);
        due.is("touching 1", x.touching(1), 1 + 4 + 16);
        due.is("touching 2", x.touching(2), 2 + 16);
        due.is("touching 3", x.touching(3), 0);
        due.is("touching 4", x.touching(4), 2 + 4);
        due.is("touching no body", x.touching(5), -1);
        due.is("touching body -1", x.touching(-1), -1);
        due.is("contacts of none", new MaskTouch().contact(-1), 0);
    }

    private static void sieves() {
        MaskTouch x = Due.field("mask #./.#;mask ..;body 0 0 0;body 0 1 0;body 0 1 1;body 1 0 0;body 0 0 0 layer 2 2;"
            + "body 0 9 9");
        due.is("sieve 0", x.sieve(0), 10);
        due.is("sieve 1", x.sieve(1), 3);
        due.is("sieve 2", x.sieve(2), 1);
        due.is("sieve 3", x.sieve(3), -1);
        due.is("sieve -1", x.sieve(-1), -1);
        MaskTouch y = Due.field("mask ....../..##../......;body 0 0 0;body 0 1 0;body 0 2 0;body 0 0 1");
        due.is("sieve by boxes of dots", y.sieve(1), 2);
    }

    private static void coverings() {
        MaskTouch x = Due.field("mask #./.#;body 0 0 0;body 0 1 1;body 0 0 0 flip 1;body 0 -9 -9 layer 0 0");
        due.is("at 0, 0", x.at(0, 0), 1);
        due.is("at 1, 1", x.at(1, 1), 3);
        due.is("at 1, 0", x.at(1, 0), 4);
        due.is("at 2, 2", x.at(2, 2), 2);
        due.is("at 3, 3", x.at(3, 3), 0);
        due.is("at -9, -9", x.at(-9, -9), 8);
        due.is("at far off", x.at(Integer.MAX_VALUE, Integer.MIN_VALUE), 0);
        due.is("at far off, too", x.at(Integer.MIN_VALUE, Integer.MAX_VALUE), 0);
        due.is("at of none", new MaskTouch().at(0, 0), 0);
    }

    private static void firsts() {
        MaskTouch x = Due.field("mask ##;body 0 0 0 moves 3 0;body 0 16 0 moves -2 0;body 0 3 0;body 0 12 0 layer 2 2;"
            + "body 0 0 0;body 0 900 0 moves 3 0");
        due.is("first", x.first(0, 1, 10), 3);
        due.is("first back", x.first(1, 0, 10), 3);
        due.is("first, too few", x.first(0, 1, 2), -2);
        due.is("first, just", x.first(0, 1, 3), 3);
        due.is("first now", x.first(0, 4, 0), 0);
        due.is("first through others", x.first(1, 4, 300), 8);
        due.is("first not seen", x.first(0, 3, 300), -2);
        due.is("first beyond 999", x.first(0, 5, 300), -2);
        x.speed(5, 0, 0);
        due.is("first at 300", x.first(0, 5, 300), 300);
        due.is("first at 299", x.first(0, 5, 299), -2);
        due.is("first 301", x.first(0, 1, 301), -1);
        due.is("first -1", x.first(0, 1, -1), -1);
        due.is("first of itself", x.first(0, 0, 5), -1);
        due.is("first of no body", x.first(6, 0, 5), -1);
        due.is("first with no body", x.first(0, 6, 5), -1);
        due.is("first: nothing happens", x.body(0, 1), 0);
        MaskTouch jump = Due.field("mask #;body 0 0 0 moves 4 0;body 0 6 0");
        due.is("first, jumped over", jump.first(0, 1, 300), -2);
    }

    private static void reaches() {
        MaskTouch x = Due.field("mask #;body 0 0 0;body 0 5 0;body 0 5 0;body 0 0 8 layer 2 2;body 0 995 0");
        due.is("reach", x.reach(0, 10, 0, 0), 4);
        due.is("reach: who stops it", x.reach(0, 10, 0, 1), 1);
        due.is("reach: the least of both", x.reach(0, 200, 0, 1), 1);
        due.is("reach all the way", x.reach(0, 4, 0, 0), 4);
        due.is("reach: none stops it", x.reach(0, 4, 0, 1), -2);
        due.is("reach past one that is not seen", x.reach(0, 0, 20, 0), 20);
        due.is("reach by nothing", x.reach(0, 0, 0, 0), 0);
        due.is("reach by nothing: none stops it", x.reach(0, 0, 0, 1), -2);
        due.is("reach to the side", x.reach(4, 200, 0, 0), 4);
        due.is("reach to the side: none stops it", x.reach(4, 200, 0, 1), -2);
        due.is("reach no step", Due.field("mask #;body 0 0 0;body 0 1 0").reach(0, 1, 0, 0), 0);
        due.is("reach 201", x.reach(0, 201, 0, 0), -1);
        due.is("reach -201", x.reach(0, 0, -201, 0), -1);
        due.is("reach what 2", x.reach(0, 1, 0, 2), -1);
        due.is("reach what -1", x.reach(0, 1, 0, -1), -1);
        due.is("reach of no body", x.reach(5, 1, 0, 0), -1);
        due.is("reach: nothing happens", x.body(0, 1), 0);
        due.is("reach is no act", x.count(3), 0);
        x.layers(1, 2, 2);
        due.is("reach: the one that is seen", x.reach(0, 10, 0, 1), 2);
    }

    private static void gaps() {
        MaskTouch x = Due.field("mask #./##;body 0 0 0;body 0 6 0;body 0 0 -7;body 0 0 0 layer 2 2;body 0 -900 0;"
            + "body 0 -400 0");
        due.is("gap right", x.gap(0, 1, 0), 5);
        due.is("gap left", x.gap(1, 0, 1), 5);
        due.is("gap the other way", x.gap(0, 1, 1), -2);
        due.is("gap up", x.gap(0, 2, 3), 6);
        due.is("gap down", x.gap(2, 0, 2), 6);
        due.is("gap down, beside", x.gap(0, 1, 2), -2);
        due.is("gap not seen", x.gap(0, 3, 0), -2);
        due.is("gap 499", x.gap(4, 5, 0), 499);
        x.place(5, -399, 0);
        due.is("gap 500", x.gap(4, 5, 0), 500);
        x.place(5, -398, 0);
        due.is("gap 501", x.gap(4, 5, 0), -2);
        x.place(1, 1, 1);
        due.is("gap none", x.gap(0, 1, 0), 0);
        due.is("gap way 4", x.gap(0, 1, 4), -1);
        due.is("gap way -1", x.gap(0, 1, -1), -1);
        due.is("gap to itself", x.gap(0, 0, 0), -1);
        due.is("gap to no body", x.gap(0, 6, 0), -1);
        due.is("gap of no body", x.gap(6, 0, 0), -1);
        MaskTouch side = Due.field("mask #;mask box 100 1;body 0 999 0;body 1 999 0;body 0 -999 0");
        side.place(0, 950, 0);
        due.is("gap beyond what may be told", side.gap(0, 1, 0), 49);
    }

    private static void nearest(String text, int far, int dx, int dy) {
        MaskTouch x = Due.field(text);
        due.is("apart of " + text, x.apart(0, 1, 0), far);
        due.is("apart in x of " + text, x.apart(0, 1, 1), dx);
        due.is("apart in y of " + text, x.apart(0, 1, 2), dy);
    }

    private static void nearestApart() {
        nearest("mask ##/##;body 0 0 0;body 0 5 5", 0, 0, 0);
        nearest("mask #;body 0 0 0;body 0 0 0", 1, 0, -1);
        nearest("mask ##/##;body 0 0 0;body 0 1 0", 1, -1, 0);
        nearest("mask ##/##;body 0 1 0;body 0 0 0", 1, 1, 0);
        nearest("mask ##/##;body 0 0 0;body 0 0 0", 2, 0, -2);
        nearest("mask ##/##;body 0 0 1;body 0 0 0", 1, 0, 1);
        nearest("mask .##/##.;body 0 0 0;body 0 0 0", 2, 0, -2);
        nearest("mask #./.#;body 0 0 0;body 0 0 0", 1, 0, -1);
        nearest("mask ###/###/###;body 0 0 0;body 0 1 1 layer 0 0", 2, 0, -2);
        nearest("mask box 3 9;body 0 0 0;body 0 0 0", 3, -3, 0);
        nearest("mask box 100 40;body 0 -999 -999;body 0 -999 -999", 40, 0, -40);
        nearest("mask .;mask #;body 0 0 0;body 1 0 0", 0, 0, 0);
        nearest("mask #.#/.#.;mask #.#/.#.;body 0 0 0;body 1 0 0", 1, 0, -1);
        MaskTouch x = Due.field("mask #;body 0 0 0;body 0 0 0");
        due.is("apart what 3", x.apart(0, 1, 3), -2000);
        due.is("apart what -1", x.apart(0, 1, -1), -2000);
        due.is("apart of itself", x.apart(0, 0, 0), -2000);
        due.is("apart of no body", x.apart(2, 0, 0), -2000);
        due.is("apart of no other", x.apart(0, 2, 0), -2000);
    }

    private static void bestOf(String text, int many, int px, int py) {
        MaskTouch x = Due.field(text);
        due.is("best of " + text, x.best(0, 1, 0), many);
        due.is("best x of " + text, x.best(0, 1, 1), px);
        due.is("best y of " + text, x.best(0, 1, 2), py);
        due.is("best is no act", x.count(3), 0);
    }

    private static void bestPlaces() {
        bestOf("mask ##/##;body 0 0 0;body 0 7 -8", 4, 7, -8);
        bestOf("mask ##/##;mask #;body 0 0 0;body 1 5 5", 1, 4, 4);
        bestOf("mask ##/##;mask #;body 1 0 0;body 0 5 5", 1, 5, 5);
        bestOf("mask ##;mask #.##;body 0 0 0;body 1 10 10", 2, 12, 10);
        bestOf("mask ##;mask ##/.#;body 0 0 0 flip 3;body 1 10 10 flip 2", 2, 10, 11);
        bestOf("mask .#;mask #;body 0 3 4 layer 0 0;body 1 -999 999", 1, -1000, 999);
        bestOf("mask ..;mask #;body 0 3 4;body 1 0 0", 0, 3, 4);
        bestOf("mask ..;mask #;body 1 3 4;body 0 0 0", 0, 3, 4);
        bestOf("mask box 100 40;mask box 30 20;body 0 0 0;body 1 0 0", 600, -70, -20);
        bestOf("mask box 100 40;mask box 30 20;body 1 0 0;body 0 0 0", 600, 0, 0);
        bestOf("mask #..#;mask #...#/.#..#;body 0 0 0;body 1 0 0", 2, 1, 1);
        MaskTouch x = Due.field("mask #;body 0 0 0;body 0 0 0");
        due.is("best what 3", x.best(0, 1, 3), -2000);
        due.is("best what -1", x.best(0, 1, -1), -2000);
        due.is("best on itself", x.best(0, 0, 0), -2000);
        due.is("best of no body", x.best(2, 0, 0), -2000);
        due.is("best on no body", x.best(0, 2, 0), -2000);
    }

    private static void slopes() {
        MaskTouch x = Due.field("mask box 4 4;body 0 0 0;body 0 2 1;body 0 9 9;body 0 0 0;body 0 3 0 layer 0 0");
        due.is("slope in x", x.slope(0, 1, 0), 9 - 3);
        due.is("slope in y", x.slope(0, 1, 1), 8 - 4);
        due.is("slope back in x", x.slope(1, 0, 0), 3 - 9);
        due.is("slope far off", x.slope(0, 2, 0), 0);
        due.is("slope on one another", x.slope(0, 3, 0), 0);
        due.is("slope of one that is not seen", x.slope(0, 4, 0), 8);
        due.is("slope what 2", x.slope(0, 1, 2), -2000000);
        due.is("slope what -1", x.slope(0, 1, -1), -2000000);
        due.is("slope of itself", x.slope(0, 0, 0), -2000000);
        due.is("slope of no body", x.slope(5, 0, 0), -2000000);
        due.is("slope with no body", x.slope(0, 5, 0), -2000000);
    }

    private static void rays() {
        MaskTouch x = Due.field("mask ##;body 0 5 0;body 0 4 0 layer 0 0;body 0 0 9");
        due.is("ray", x.ray(0, 0, 10, 0), 401);
        due.is("ray: the least", x.ray(5, -3, 0, 9), 300);
        due.is("ray from within", x.ray(6, 0, 3, 3), 0);
        due.is("ray of no length", x.ray(4, 0, 0, 0), 1);
        due.is("ray of no length beside", x.ray(3, 0, 0, 0), -2);
        due.is("ray too short", x.ray(0, 0, 3, 0), -2);
        due.is("ray just", x.ray(0, 0, 4, 0), 401);
        due.is("ray to the left", x.ray(10, 0, -10, 0), 400);
        due.is("ray at most", x.ray(304, 0, -300, 0), 29800);
        due.is("ray from far off", x.ray(9999, -9999, 300, -300), -2);
        due.is("ray x 10000", x.ray(10000, 0, 0, 0), -1);
        due.is("ray y -10000", x.ray(0, -10000, 0, 0), -1);
        due.is("ray dx 301", x.ray(0, 0, 301, 0), -1);
        due.is("ray dy -301", x.ray(0, 0, 0, -301), -1);
        // Halves go up: the way of 2, -1 is at 1, 0 by STEP 1, that of 2, 1 at 1, 1, that of -2, -1 at -1, 0.
        MaskTouch y = Due.field("mask #;body 0 1 1;body 0 1 -1;body 0 -1 0;body 0 -1 -1;body 0 1 0");
        due.is("ray 2, 1", y.ray(0, 0, 2, 1), 100);
        due.is("ray 2, -1", y.ray(0, 0, 2, -1), 104);
        due.is("ray -2, -1", y.ray(0, 0, -2, -1), 102);
        due.is("ray -2, 1", y.ray(0, -1, -2, 1), 102);
        due.is("ray 1, 2", y.ray(0, 0, 1, 2), 100);
        due.is("ray -1, -2", y.ray(0, 0, -1, -2), -2);
        due.is("ray of none", new MaskTouch().ray(0, 0, 5, 5), -2);
    }

    private static void sights() {
        MaskTouch x = Due.field("mask #;mask ###;mask .;body 0 0 0;body 0 10 0;body 1 3 0;body 1 5 0 layer 0 0;body 2 0 0;"
            + "body 0 0 0");
        // Between 0, 0 and 10, 0: 3 to 7 by the two longer ones, and 0 by the last.
        due.is("seen", x.seen(0, 1), 6);
        due.is("seen back", x.seen(1, 0), 6);
        due.is("seen, not by themselves", x.seen(2, 3), 0);
        due.is("seen at the same place", x.seen(0, 5), 0);
        due.is("seen on a third", x.seen(5, 1), 6);
        due.is("seen of none", x.seen(4, 0), -1);
        due.is("seen to none", x.seen(0, 4), -1);
        due.is("seen of itself", x.seen(0, 0), -1);
        due.is("seen of no body", x.seen(6, 0), -1);
        due.is("seen to no body", x.seen(0, 6), -1);
        // The middle of a box goes down: that of -2 to -1 is -2, that of 1 to 2 is 1.
        MaskTouch z = Due.field("mask ##;mask #;body 0 -2 0;body 1 -2 6;body 1 -2 3;body 1 -1 2");
        due.is("seen from a middle that goes down", z.seen(0, 1), 1);
        MaskTouch w = Due.field("mask ##;mask #;body 1 9 9;body 0 1 0;body 1 1 6;body 1 1 3;body 1 2 2");
        due.is("seen from a middle above 0", w.seen(1, 2), 1);
    }
}
