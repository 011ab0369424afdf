/** Promises 5 to 18: the acts. */
public final class ActsTest {
    private static final Due due = new Due();

    public static void main(String[] args) {
        placing();
        flipping();
        layering();
        speeding();
        turning();
        growing();
        thinning();
        joining();
        sliding();
        pushing();
        falling();
        cropping();
        quartering();
        ticking();
        due.close();
    }

    /** Refused calls change nothing and are no acts. */
    private static void unchanged(String what, MaskTouch x, long digest, int acts) {
        due.is(what + ": nothing happens", x.digest(), digest);
        due.is(what + ": acts", x.count(3), acts);
    }

    private static void placing() {
        MaskTouch x = Due.field("mask ##/##;body 0 0 0;body 0 5 5");
        due.is("place", x.place(0, 3, 4), 1);
        due.is("place: x", x.body(0, 1), 3);
        due.is("place: y", x.body(0, 2), 4);
        due.is("place: the other one", x.body(1, 1), 5);
        long digest = x.digest();
        due.is("place there", x.place(0, 3, 4), -2);
        due.is("place no body", x.place(2, 0, 0), -1);
        due.is("place body -1", x.place(-1, 0, 0), -1);
        due.is("place x 1000", x.place(0, 1000, 0), -1);
        due.is("place x -1000", x.place(0, -1000, 0), -1);
        due.is("place y 1000", x.place(0, 0, 1000), -1);
        due.is("place y -1000", x.place(0, 0, -1000), -1);
        unchanged("place", x, digest, 1);
        due.is("place at the ends", x.place(0, 999, -999), 1);
        due.is("place at the other ends", x.place(0, -999, 999), 1);
        due.is("place in x alone", x.place(0, -998, 999), 1);
        due.is("place in y alone", x.place(0, -998, 998), 1);
    }

    private static void flipping() {
        MaskTouch x = Due.field("mask ##./..#;body 0 10 10");
        due.is("flip to 1", x.flip(0, 1), 0);
        due.is("flip 1", places(x), 0b001_110);
        due.is("flip to 2", x.flip(0, 2), 1);
        due.is("flip 2", places(x), 0b011_100);
        due.is("flip to 3", x.flip(0, 3), 2);
        due.is("flip 3", places(x), 0b110_001);
        long digest = x.digest();
        due.is("flip so", x.flip(0, 3), -2);
        due.is("flip 4", x.flip(0, 4), -1);
        due.is("flip -1", x.flip(0, -1), -1);
        due.is("flip no body", x.flip(1, 0), -1);
        due.is("flip body -1", x.flip(-1, 3), -1);
        unchanged("flip", x, digest, 3);
        due.is("flip to 0", x.flip(0, 0), 3);
        due.is("flip 0", places(x), 0b100_011);
        MaskTouch wide = Due.field("mask box 100 1;mask box 65 1;body 0 0 0 flip 1;body 1 0 9 flip 3");
        wide.turn(0, 0, 0);
        wide.turn(1, 64, 0);
        due.is("a wide flip", wide.at(99, 0), 0);
        due.is("a wide flip's other end", wide.at(0, 0), 1);
        due.is("a flip of 65", wide.at(0, 9), 0);
        due.is("a flip of 65: the other end", wide.at(64, 9), 2);
        due.is("a flip of 65: beyond", wide.at(65, 9), 0);
    }

    /** The dots of body 0 within 3 by 2 places from 10, 10 on, as bits. */
    private static int places(MaskTouch x) {
        int bits = 0;
        for (int i = 0; i < 6; i++) {
            bits |= x.at(10 + i % 3, 10 + i / 3) << i;
        }
        return bits;
    }

    private static void layering() {
        MaskTouch x = Due.field("mask #;body 0 0 0;body 0 0 0");
        due.is("layers", x.layers(0, 2, 4), 1);
        due.is("layers: own", x.body(0, 4), 2);
        due.is("layers: sees", x.body(0, 5), 4);
        long digest = x.digest();
        due.is("layers so", x.layers(0, 2, 4), -2);
        due.is("layers own 16", x.layers(0, 16, 0), -1);
        due.is("layers own -1", x.layers(0, -1, 0), -1);
        due.is("layers sees 16", x.layers(0, 0, 16), -1);
        due.is("layers sees -1", x.layers(0, 0, -1), -1);
        due.is("layers no body", x.layers(2, 0, 0), -1);
        unchanged("layers", x, digest, 1);
        due.is("layers own alone", x.layers(0, 15, 4), 1);
        due.is("layers sees alone", x.layers(0, 15, 0), 1);
        due.is("own is seen", x.touching(0), 2);
        due.is("layers of none", x.layers(0, 0, 0), 1);
        due.is("none is seen", x.touching(0), 0);
        due.is("layers that sees", x.layers(0, 0, 1), 1);
        due.is("it sees", x.touching(0), 2);
        due.is("layers unlike", x.layers(0, 2, 2), 1);
        due.is("unlike ones", x.touching(0), 0);
    }

    private static void speeding() {
        MaskTouch x = Due.field("mask #;body 0 0 0");
        due.is("speed", x.speed(0, 20, -20), 1);
        due.is("speed: vx", x.body(0, 6), 20);
        due.is("speed: vy", x.body(0, 7), -20);
        long digest = x.digest();
        due.is("speed so", x.speed(0, 20, -20), -2);
        due.is("speed vx 21", x.speed(0, 21, 0), -1);
        due.is("speed vx -21", x.speed(0, -21, 0), -1);
        due.is("speed vy 21", x.speed(0, 0, 21), -1);
        due.is("speed vy -21", x.speed(0, 0, -21), -1);
        due.is("speed no body", x.speed(1, 0, 0), -1);
        unchanged("speed", x, digest, 1);
        due.is("speed vx alone", x.speed(0, -20, -20), 1);
        due.is("speed vy alone", x.speed(0, -20, 20), 1);
    }

    private static void turning() {
        MaskTouch x = Due.field("mask #./..;mask box 100 40;body 0 0 0");
        due.is("turn to a dot", x.turn(0, 1, 1), 1);
        due.is("turn: the dot", x.dot(0, 1, 1), 1);
        due.is("turn: its body", x.at(1, 1), 1);
        due.is("turn to none", x.turn(0, 1, 1), 0);
        due.is("turn: no dot", x.dot(0, 1, 1), 0);
        due.is("turn: dots", x.mask(0, 2), 1);
        long digest = x.digest();
        due.is("turn x beyond", x.turn(0, 2, 0), -1);
        due.is("turn y beyond", x.turn(0, 0, 2), -1);
        due.is("turn x -1", x.turn(0, -1, 0), -1);
        due.is("turn y -1", x.turn(0, 0, -1), -1);
        due.is("turn no mask", x.turn(2, 0, 0), -1);
        due.is("turn mask -1", x.turn(-1, 0, 0), -1);
        unchanged("turn", x, digest, 2);
        due.is("turn the last", x.turn(1, 99, 39), 0);
        due.is("turn the last: its row", x.row(1, 39, 1), (1L << 35) - 1);
        due.is("turn x 100", x.turn(1, 100, 39), -1);
        due.is("turn at 63", x.turn(1, 63, 0), 0);
        due.is("turn at 63: its row", x.row(1, 0, 0), Long.MAX_VALUE);
    }

    private static void growing() {
        MaskTouch x = Due.field("mask .../.#./...;mask ..;mask box 100 1");
        due.is("grow", x.grow(0), 4);
        due.is("grow: rows", x.row(0, 0, 0) + 10 * x.row(0, 1, 0) + 100 * x.row(0, 2, 0), 272);
        due.is("grow again", x.grow(0), 4);
        due.is("grow: all", x.mask(0, 2), 9);
        long digest = x.digest();
        due.is("grow a full one", x.grow(0), -2);
        due.is("grow an empty one", x.grow(1), -2);
        due.is("grow no mask", x.grow(3), -1);
        due.is("grow mask -1", x.grow(-1), -1);
        unchanged("grow", x, digest, 2);
        x.join(2, 2, 0, 0, 3);
        x.turn(2, 63, 0);
        due.is("grow over the words", x.grow(2), 2);
        due.is("grow over the words: low", x.row(2, 0, 0), 3L << 62);
        due.is("grow over the words: high", x.row(2, 0, 1), 1);
        due.is("grow once more", x.grow(2), 2);
        due.is("grow once more: high", x.row(2, 0, 1), 3);
        x.join(2, 2, 3, 0, 3);
        x.join(2, 2, 0, 0, 3);
        x.turn(2, 64, 0);
        due.is("grow over the words, back", x.grow(2), 2);
        due.is("grow over the words, back: low", x.row(2, 0, 0), 1L << 63);
        x.undo();
        x.undo();
        x.undo();
        x.undo();
        x.turn(2, 99, 0);
        due.is("grow at the side", x.grow(2), 3);
        due.is("grow at the side: high", x.row(2, 0, 1), 3L << 34 | 7);
    }

    private static void thinning() {
        MaskTouch x = Due.field("mask box 3 3;mask box 100 3;mask box 5 2;mask ..;mask .#./###/.#.");
        due.is("thin", x.thin(0), 8);
        due.is("thin: the middle", x.dot(0, 1, 1), 1);
        due.is("thin again", x.thin(0), 1);
        long digest = x.digest();
        due.is("thin an empty one", x.thin(0), -2);
        due.is("thin one without dots", x.thin(3), -2);
        due.is("thin no mask", x.thin(5), -1);
        due.is("thin mask -1", x.thin(-1), -1);
        unchanged("thin", x, digest, 2);
        due.is("thin a wide one", x.thin(1), 202);
        due.is("thin a wide one: low", x.row(1, 1, 0), -2L);
        due.is("thin a wide one: high", x.row(1, 1, 1), (1L << 35) - 1);
        due.is("thin a wide one: above", x.row(1, 0, 0) | x.row(1, 2, 1), 0);
        x.undo();
        x.turn(1, 62, 1);
        due.is("thin with a gap", x.thin(1), 299 - 95);
        due.is("thin with a gap: low", x.row(1, 1, 0), (1L << 61) - 2);
        due.is("thin with a gap: high", x.row(1, 1, 1), (1L << 35) - 1);
        x.undo();
        x.turn(1, 62, 1);
        x.turn(1, 63, 0);
        due.is("thin below a gap", x.thin(1), 299 - 97);
        due.is("thin below a gap: low", x.row(1, 1, 0), Long.MAX_VALUE - 1);
        due.is("thin below a gap: high", x.row(1, 1, 1), (1L << 35) - 1);
        due.is("thin two rows", x.thin(2), 10);
        due.is("thin a cross", x.thin(4), 4);
        due.is("thin a cross: what stays", x.dot(4, 1, 1), 1);
    }

    private static void joining() {
        MaskTouch x = Due.field("mask #../..#;mask ##;body 0 0 0");
        due.is("join either", x.join(0, 1, 1, 0, 0), 4);
        due.is("join either: row", x.row(0, 0, 0), 7);
        due.is("join: the body", x.at(1, 0), 1);
        due.is("join both", x.join(0, 1, 0, 0, 1), 2);
        due.is("join both: row", x.row(0, 0, 0), 3);
        due.is("join own alone", x.join(0, 1, 1, 0, 2), 1);
        due.is("join own alone: row", x.row(0, 0, 0), 1);
        due.is("join one alone", x.join(0, 1, 0, 0, 3), 1);
        due.is("join one alone: row", x.row(0, 0, 0), 2);
        due.is("join beyond the right", x.join(0, 1, 2, 1, 0), 2);
        due.is("join beyond the right: row", x.row(0, 1, 0), 4);
        due.is("join beyond the left", x.join(0, 1, -1, 0, 0), 3);
        due.is("join the same", x.join(0, 0, 1, 0, 0), 4);
        due.is("join the same: row", x.row(0, 0, 0), 7);
        due.is("join: the other one stays", x.mask(1, 2), 2);
        long digest = x.digest();
        due.is("join: acts", x.count(3), 7);
        due.is("join no mask", x.join(2, 0, 0, 0, 0), -1);
        due.is("join with no mask", x.join(0, 2, 0, 0, 0), -1);
        due.is("join dx 100", x.join(0, 1, 100, 0, 0), -1);
        due.is("join dx -100", x.join(0, 1, -100, 0, 0), -1);
        due.is("join dy 100", x.join(0, 1, 0, 100, 0), -1);
        due.is("join dy -100", x.join(0, 1, 0, -100, 0), -1);
        due.is("join how 4", x.join(0, 1, 0, 0, 4), -1);
        due.is("join how -1", x.join(0, 1, 0, 0, -1), -1);
        unchanged("join", x, digest, 7);
        due.is("join far off", x.join(0, 1, 99, -99, 0), 4);
        due.is("join that changes nothing is an act", x.count(3), 8);
        due.is("join far off, both", x.join(0, 1, -99, 99, 1), 0);
        MaskTouch w = Due.field("mask box 100 2;mask ##/##");
        due.is("join wide: none", w.join(0, 0, 0, 0, 3), 0);
        due.is("join over the words", w.join(0, 1, 63, 0, 0), 4);
        due.is("join over the words: low", w.row(0, 0, 0), 1L << 63);
        due.is("join over the words: high", w.row(0, 1, 1), 1);
        due.is("join the same to the left", w.join(0, 0, -63, -1, 1), 0);
        due.is("join again", w.join(0, 1, 98, 1, 0), 2);
        due.is("join the same by 98", w.join(0, 0, -98, 0, 3), 4);
        due.is("join the same by 98: low", w.row(0, 1, 0), 3);
    }

    private static void sliding() {
        MaskTouch x = Due.field("mask ##/##;body 0 0 0;body 0 6 1");
        due.is("slide up to one", x.slide(0, 10, 0), 4);
        due.is("slide: x", x.body(0, 1), 4);
        long digest = x.digest();
        due.is("slide no step", x.slide(0, 10, 0), -2);
        due.is("slide by nothing", x.slide(0, 0, 0), -2);
        due.is("slide 201", x.slide(0, 201, 0), -1);
        due.is("slide -201", x.slide(0, 0, -201), -1);
        due.is("slide no body", x.slide(2, 1, 0), -1);
        due.is("slide body -1", x.slide(-1, 1, 0), -1);
        unchanged("slide", x, digest, 1);
        due.is("slide aslant", x.slide(1, 3, 2), 3);
        due.is("slide aslant: x", x.body(1, 1), 9);
        due.is("slide aslant: y", x.body(1, 2), 3);
        due.is("slide 200", x.slide(1, 200, -200), 200);
        MaskTouch side = Due.field("mask #;body 0 990 -999");
        due.is("slide to the side", side.slide(0, 200, 0), 9);
        due.is("slide beyond the side", side.slide(0, 0, -1), -2);
        due.is("slide aslant to the side", side.slide(0, -2, -1), 1);
        due.is("slide aslant to the side: x", side.body(0, 1), 998);
        due.is("slide aslant to the side: y", side.body(0, 2), -999);
        MaskTouch in = Due.field("mask ##;mask frame 5 3;mask #;body 0 0 0;body 0 1 0;body 1 0 50;body 2 0 51");
        due.is("slide off one that it touches", in.slide(0, 10, 0), 10);
        due.is("slide back to it", in.slide(0, -20, 0), 7);
        due.is("slide through what it touches", in.slide(3, 10, 0), 10);
        in.place(3, 1, 51);
        due.is("slide within a frame", in.slide(3, 10, 0), 2);
        in.layers(3, 2, 2);
        due.is("slide where none sees", in.slide(3, 10, 0), 10);
        // Halves go up: by STEP 1 of 2, 1 the way is at 1, 1, and of 2, -1 at 1, 0.
        MaskTouch way = Due.field("mask #;body 0 0 0;body 0 1 1;body 0 1 0;body 0 50 50;body 0 51 50;body 0 51 49");
        way.layers(2, 0, 0);
        way.layers(5, 0, 0);
        due.is("the way of 2, 1", way.slide(0, 2, 1), -2);
        due.is("the way of 2, -1", way.slide(3, 2, -1), -2);
        way.layers(1, 0, 0);
        way.layers(4, 0, 0);
        due.is("the way of 2, 1, free", way.slide(0, 2, 1), 2);
        due.is("the way of 2, -1, free", way.slide(3, 2, -1), 2);
    }

    private static void pushing() {
        MaskTouch x = Due.field("mask #;body 0 0 0;body 0 2 0;body 0 3 0;body 0 9 9");
        due.is("push", x.push(0, 3, 0), 3);
        due.is("push: it", x.body(0, 1), 3);
        due.is("push: the next", x.body(1, 1), 4);
        due.is("push: the one behind", x.body(2, 1), 5);
        due.is("push: another one", x.body(3, 1), 9);
        long digest = x.digest();
        due.is("push by nothing", x.push(0, 0, 0), -2);
        due.is("push 201", x.push(0, 0, 201), -1);
        due.is("push -201", x.push(0, -201, 0), -1);
        due.is("push no body", x.push(4, 1, 0), -1);
        unchanged("push", x, digest, 1);
        due.is("push is one act", x.undo(), 0);
        due.is("push undone", x.body(2, 1), 3);
        MaskTouch side = Due.field("mask #;body 0 996 0;body 0 998 0");
        due.is("push to the side", side.push(0, 10, 0), 2);
        due.is("push to the side: it", side.body(0, 1), 998);
        due.is("push to the side: the next", side.body(1, 1), 999);
        digest = side.digest();
        due.is("push beyond the side", side.push(0, 10, 0), -2);
        unchanged("push beyond the side", side, digest, 1);
        MaskTouch in = Due.field("mask ##;body 0 0 0;body 0 1 0");
        due.is("push off one that it touches", in.push(0, 5, 0), 5);
        due.is("push off one: it stays", in.body(1, 1), 1);
        due.is("push back", in.push(0, -5, 0), 5);
        due.is("push back: it goes", in.body(1, 1), -2);
        MaskTouch unseen = Due.field("mask #;body 0 0 0;body 0 1 0 layer 2 2;body 0 2 0 layer 3 1;body 0 3 0 layer 2 2");
        due.is("push past one that is not seen", unseen.push(0, 2, 0), 2);
        due.is("push: not seen", unseen.body(1, 1), 1);
        due.is("push: seen", unseen.body(2, 1), 3);
        due.is("push: seen by the one that goes", unseen.body(3, 1), 4);
        MaskTouch aslant = Due.field("mask #;body 0 0 0;body 0 1 1;body 0 2 1;body 0 3 2");
        due.is("push aslant", aslant.push(0, 2, 1), 2);
        // STEP 1 goes 1, 1 (with the second, which comes to 2, 2); STEP 2 goes 1, 0 (with the third).
        due.is("push aslant: it", aslant.body(0, 1) * 100 + aslant.body(0, 2), 201);
        due.is("push aslant: the second", aslant.body(1, 1) * 100 + aslant.body(1, 2), 202);
        due.is("push aslant: the third", aslant.body(2, 1) * 100 + aslant.body(2, 2), 301);
        due.is("push aslant: the fourth", aslant.body(3, 1) * 100 + aslant.body(3, 2), 302);
    }

    private static void falling() {
        MaskTouch x = Due.field("mask ##;body 0 0 990;body 0 1 980;body 0 10 999");
        due.is("falls", x.falls(), 27);
        due.is("falls: the first", x.body(0, 2), 999);
        due.is("falls: on it", x.body(1, 2), 998);
        long digest = x.digest();
        due.is("falls no more", x.falls(), -2);
        unchanged("falls", x, digest, 1);
        due.is("falls undone", x.undo(), 0);
        due.is("falls undone: y", x.body(1, 2), 980);
        due.is("falls all the way", Due.field("mask #;body 0 0 -999").falls(), 1998);
        due.is("falls above one another", Due.field("mask #;body 0 0 0;body 0 0 1").falls(), 1996);
        due.is("falls through one another", Due.field("mask #;body 0 0 0 layer 1 1;body 0 0 1 layer 2 2").falls(), 1997);
        // The first leaves the second, which comes to lie on it: at 999 and 997.
        due.is("falls apart", Due.field("mask ##/##;body 0 0 0;body 0 1 1").falls(), 1995);
        due.is("falls without bodies", Due.field("mask #").falls(), -1);
        due.is("falls of nothing", new MaskTouch().falls(), -1);
    }

    private static void cropping() {
        MaskTouch x = Due.field("mask ..../.##./....;body 0 5 5;body 0 20 20 flip 3;mask .#;body 1 999 999;mask ..;"
            + "mask ...../...../.#...");
        due.is("crop", x.crop(0), 2);
        due.is("crop: wide", x.mask(0, 0), 2);
        due.is("crop: high", x.mask(0, 1), 1);
        due.is("crop: x", x.body(0, 1), 6);
        due.is("crop: y", x.body(0, 2), 6);
        due.is("crop: x, flipped", x.body(1, 1), 21);
        due.is("crop: y, flipped", x.body(1, 2), 21);
        due.is("crop: dots stay", x.at(6, 6) + x.at(7, 6) + x.at(21, 21) + x.at(22, 21), 6);
        due.is("crop: bodies of other masks stay", x.body(2, 1), 999);
        long digest = x.digest();
        due.is("crop as it is", x.crop(0), -2);
        due.is("crop without dots", x.crop(2), -2);
        due.is("crop too far", x.crop(1), -3);
        due.is("crop no mask", x.crop(4), -1);
        due.is("crop mask -1", x.crop(-1), -1);
        unchanged("crop", x, digest, 1);
        due.is("crop without bodies", x.crop(3), 1);
        int[][] moves = {{1, 2}, {3, 2}, {1, 0}, {3, 0}};
        for (int flip = 0; flip < 4; flip++) {
            MaskTouch y = Due.field("mask ...../...../.#...;body 0 0 0 flip " + flip);
            due.is("crop one dot, flip " + flip, y.crop(0), 1);
            due.is("crop one dot: x, flip " + flip, y.body(0, 1), moves[flip][0]);
            due.is("crop one dot: y, flip " + flip, y.body(0, 2), moves[flip][1]);
        }
        due.is("crop to 999", Due.field("mask .#;body 0 998 0").crop(0), 1);
        due.is("crop beyond in y", Due.field("mask ./#;body 0 0 0;body 0 0 999").crop(0), -3);
        due.is("crop beyond, as it is", Due.field("mask #;body 0 999 999").crop(0), -2);
        MaskTouch w = Due.field("mask box 100 1;mask box 70 1");
        w.join(0, 1, 0, 0, 3);
        due.is("crop over the words", w.crop(0), 30);
        due.is("crop over the words: row", w.row(0, 0, 0), (1L << 30) - 1);
        due.is("crop over the words: high", w.row(0, 0, 1), 0);
    }

    private static void quartering() {
        MaskTouch x = Due.field("mask ##./#..;mask box 41 1;mask box 40 3;body 0 7 7 flip 1");
        due.is("quarter", x.quarter(0), 2);
        due.is("quarter: high", x.mask(0, 1), 3);
        due.is("quarter: rows", x.row(0, 0, 0) + 10 * x.row(0, 1, 0) + 100 * x.row(0, 2, 0), 23);
        due.is("quarter: the body stays", x.body(0, 1), 7);
        due.is("quarter: its dots", x.at(7, 7) + 10 * x.at(8, 7) + 100 * x.at(7, 8) + 1000 * x.at(8, 8), 111);
        long digest = x.digest();
        due.is("quarter 41", x.quarter(1), -2);
        due.is("quarter no mask", x.quarter(3), -1);
        due.is("quarter mask -1", x.quarter(-1), -1);
        unchanged("quarter", x, digest, 1);
        due.is("quarter 40", x.quarter(2), 3);
        due.is("quarter 40: high", x.mask(2, 1), 40);
        due.is("quarter 40: dots", x.mask(2, 2), 120);
        due.is("quarter back", x.quarter(2), 40);
        due.is("quarter 2", x.quarter(0), 3);
        due.is("quarter 3", x.quarter(0), 2);
        due.is("quarter 4", x.quarter(0), 3);
        due.is("quarter 4: rows", x.row(0, 0, 0) + 10 * x.row(0, 1, 0), 13);
    }

    private static void ticking() {
        MaskTouch x = Due.field("mask #;body 0 0 0 moves 2 0;body 0 5 0");
        due.is("ticks", x.ticks(3), 1);
        due.is("ticks: x", x.body(0, 1), 4);
        due.is("ticks: vx", x.body(0, 6), -2);
        due.is("ticks back", x.ticks(1), 0);
        due.is("ticks back: x", x.body(0, 1), 2);
        due.is("ticks: how many", x.count(6), 4);
        long digest = x.digest();
        due.is("ticks 0", x.ticks(0), -1);
        due.is("ticks 21", x.ticks(21), -1);
        due.is("ticks -1", x.ticks(-1), -1);
        due.is("ticks: none of these", x.count(6), 4);
        unchanged("ticks", x, digest, 2);
        due.is("ticks 20", x.ticks(20), 0);
        due.is("ticks 20: x", x.body(0, 1), -38);
        due.is("ticks undone", x.undo(), 2);
        due.is("ticks undone: how many", x.count(6), 4);
        MaskTouch side = Due.field("mask #;body 0 998 0 moves 1 -1");
        due.is("ticks to the side", side.ticks(1), 0);
        due.is("ticks at the side", side.ticks(1), 1);
        due.is("ticks at the side: vx", side.body(0, 6), -1);
        due.is("ticks at the side: vy", side.body(0, 7), 1);
        due.is("ticks at the side: y", side.body(0, 2), -1);
        MaskTouch part = Due.field("mask #;body 0 0 0 moves 5 0;body 0 3 0");
        due.is("ticks stopped ahead of the last step", part.ticks(1), 1);
        due.is("ticks stopped: x", part.body(0, 1), 2);
        due.is("ticks stopped: vx", part.body(0, 6), -5);
        MaskTouch row = Due.field("mask #;body 0 0 0 moves 1 0;body 0 1 0 moves 1 0");
        due.is("ticks, one by one", row.ticks(1), 1);
        due.is("ticks, one by one: the first", row.body(0, 1), 0);
        due.is("ticks, one by one: the second", row.body(1, 1), 2);
        MaskTouch jammed = Due.field("mask #;body 0 0 0;body 0 1 0 moves 1 0;body 0 2 0");
        due.is("ticks of a jammed one", jammed.ticks(20), 20);
        MaskTouch none = new MaskTouch();
        due.is("ticks of nothing", none.ticks(5), 0);
        due.is("ticks of nothing: how many", none.count(6), 5);
        due.is("ticks of nothing: an act", none.count(3), 1);
    }
}
