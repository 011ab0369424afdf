/** Boundary cases of promises 19 to 21, 48 and 50 and of ACTS and SHELVES ("Terms"), sentence by sentence. */
public final class EdgeKeepTest {
    private static final Due due = new Due();
    private static final Edge edge = new Edge(due);
    private static final String FIELD = "mask #.;mask ##;body 0 0 0 moves 1 0;body 1 9 9";

    public static void main(String[] args) {
        undoNone();
        undoTheLast10();
        undoTheLastFirst();
        undoGoesRound();
        whatIsAnAct();
        keepShelves();
        keepNothing();
        keepOver();
        keepLeavesActs();
        backNone();
        backAll();
        backLeavesTapeAndShelves();
        digestAtFirst();
        digestGoesRound();
        digestOfAll();
        countWhat();
        countTicks();
        calls512();
        due.close();
    }

    private static void undoNone() {
        due.is("undo of a new one", new MaskTouch().undo(), -1);
        MaskTouch x = Edge.busy(FIELD, 0);
        MaskTouch twin = Edge.busy(FIELD, 0);
        due.is("undo none", x.undo(), -1);
        due.is("undo none, again", x.undo(), -1);
        due.is("undo none: nothing happens", Edge.portrait(x).equals(Edge.portrait(twin)) ? 1 : 0, 1);
        MaskTouch one = Due.field(FIELD);
        one.place(0, 3, 3);
        due.is("undo the only one", one.undo(), 0);
        due.is("undo no more", one.undo(), -1);
        due.is("undo no more: it stays undone", one.body(0, 1), 0);
    }

    private static void undoTheLast10() {
        for (int acts = 1; acts <= 25; acts++) {
            MaskTouch x = Due.field(FIELD);
            for (int i = 1; i <= acts; i++) {
                x.place(0, i, -i);
                due.is("acts " + i, x.count(3), Math.min(i, 10));
            }
            int most = Math.min(acts, 10);
            for (int left = most - 1; left >= 0; left--) {
                due.is("of " + acts + " acts: undo", x.undo(), left);
                due.is("of " + acts + " acts: left", x.count(3), left);
                due.is("of " + acts + " acts: x", x.body(0, 1), acts - most + left);
                due.is("of " + acts + " acts: y", x.body(0, 2), -(acts - most + left));
            }
            due.is("of " + acts + " acts: none more", x.undo(), -1);
            due.is("of " + acts + " acts: x stays", x.body(0, 1), acts - most);
        }
    }

    private static void undoTheLastFirst() {
        MaskTouch x = Due.field(FIELD);
        x.flip(0, 1);
        x.turn(0, 1, 0);
        x.quarter(1);
        due.is("undo the third", x.undo(), 2);
        due.is("undo the third: W", x.mask(1, 0), 2);
        due.is("undo the third: the second stays", x.dot(0, 1, 0), 1);
        due.is("undo the second", x.undo(), 1);
        due.is("undo the second: the dot", x.dot(0, 1, 0), 0);
        due.is("undo the second: the first stays", x.body(0, 3), 1);
        due.is("undo the second: as it lies", x.at(1, 0), 1);
        due.is("undo the second: no dot beside", x.at(0, 0), 0);
        due.is("undo the first", x.undo(), 0);
        due.is("undo the first: as it lies", x.at(0, 0), 1);
        due.is("undo the first: no dot beside", x.at(1, 0), 0);
    }

    /** Acts and undos in turn, more than there are places for acts. */
    private static void undoGoesRound() {
        MaskTouch x = Due.field(FIELD);
        int[] stack = new int[11];
        int held = 0;
        int now = 0;
        for (int i = 1; i <= 120; i++) {
            if (i % 5 == 0 || i % 7 == 0 || i > 100) {
                int want = held == 0 ? -1 : held - 1;
                due.is("round " + i + ": undo", x.undo(), want);
                now = held == 0 ? now : stack[held - 1];
                held = Math.max(0, held - 1);
            } else {
                if (held == 10) {
                    System.arraycopy(stack, 1, stack, 0, 9);
                    held--;
                }
                stack[held++] = now;
                now = i;
                due.is("round " + i + ": place", x.place(0, i, 0), 1);
            }
            due.is("round " + i + ": x", x.body(0, 1), now);
            due.is("round " + i + ": acts", x.count(3), held);
        }
    }

    private static void whatIsAnAct() {
        String field = "mask .../.#./...;body 0 0 0;body 0 9 0";
        edge.acts(field, "place", x -> x.place(0, 1, 1), 1);
        edge.acts(field, "flip", x -> x.flip(0, 1), 0);
        edge.acts(field, "layers", x -> x.layers(0, 2, 2), 1);
        edge.acts(field, "speed", x -> x.speed(0, 2, 2), 1);
        edge.acts(field, "turn", x -> x.turn(0, 0, 0), 1);
        edge.acts(field, "grow", x -> x.grow(0), 4);
        edge.acts(field, "thin", x -> x.thin(0), 1);
        edge.acts(field, "join", x -> x.join(0, 0, 1, 0, 0), 2);
        edge.acts(field, "slide", x -> x.slide(0, 2, 0), 2);
        edge.acts(field, "push", x -> x.push(0, 20, 0), 20);
        edge.acts(field, "falls", x -> x.falls(), 2 * 999);
        edge.acts(field, "crop", x -> x.crop(0), 1);
        edge.acts(field, "quarter", x -> x.quarter(0), 3);
        edge.acts(field, "ticks", x -> x.ticks(3), 0);
        // What comes ahead of place() and behind ticks() is none.
        MaskTouch x = Due.field(field);
        x.feed(0, 0, 0, 0, 0);
        due.is("feed is no act", x.count(3), 0);
        x.end(3);
        due.is("end is no act", x.count(3), 0);
        x.keep(0);
        due.is("keep is no act", x.count(3), 0);
        x.back(0);
        due.is("back is no act", x.count(3), 0);
        x.end(0);
        x.tell();
        due.is("tell is no act", x.count(3), 0);
    }

    private static void keepShelves() {
        edge.still(FIELD, "keep shelf -1", x -> x.keep(-1), -1);
        edge.still(FIELD, "keep shelf 2", x -> x.keep(2), -1);
        for (int shelf = 0; shelf <= 1; shelf++) {
            MaskTouch x = Due.field(FIELD);
            due.is("keep shelf " + shelf, x.keep(shelf), 2);
            due.is("kept on shelf " + shelf, x.count(5), 1 << shelf);
            due.is("nothing on the other shelf", x.back(1 - shelf), -2);
            due.is("back of shelf " + shelf, x.back(shelf), 2);
        }
        MaskTouch ten = Due.field("mask #" + ";body 0 0 0".repeat(10));
        due.is("keep ten", ten.keep(1), 10);
        due.is("back ten", ten.back(1), 10);
    }

    private static void keepNothing() {
        MaskTouch x = new MaskTouch();
        due.is("keep a new one", x.keep(0), 0);
        due.is("keep a new one: it is kept", x.count(5), 1);
        Due.tell(x, FIELD);
        due.is("back to a new one", x.back(0), 0);
        due.is("back to a new one: masks", x.count(0), 0);
        due.is("back to a new one: dots", x.count(2), 0);
        due.is("back to a new one: nothing at 0, 0", x.at(0, 0), 0);
        Due.tell(x, "mask ###");
        due.is("keep without bodies", x.keep(1), 0);
        Due.tell(x, FIELD);
        due.is("back without bodies", x.back(1), 0);
        due.is("back without bodies: W", x.mask(0, 0), 3);
    }

    private static void keepOver() {
        MaskTouch x = Due.field(FIELD);
        x.keep(0);
        x.place(0, 5, 5);
        x.keep(1);
        x.place(0, 6, 6);
        due.is("keep over", x.keep(0), 2);
        x.place(0, 7, 7);
        x.back(0);
        due.is("kept over", x.body(0, 1), 6);
        x.back(1);
        due.is("kept over: the other shelf stays", x.body(0, 1), 5);
        due.is("kept over: shelves", x.count(5), 3);
        // What is done behind keep() is not kept, and what is done behind back() neither.
        x.turn(0, 0, 0);
        x.back(1);
        due.is("kept: the dot", x.dot(0, 0, 0), 1);
        due.is("kept: as it lies", x.at(5, 5), 1);
        x.slide(0, 3, 0);
        x.undo();
        x.ticks(2);
        x.back(1);
        due.is("kept: ticks", x.count(6), 0);
        due.is("kept: x", x.body(0, 1), 5);
    }

    private static void keepLeavesActs() {
        for (int acts : new int[] {0, 1, 9, 10, 11}) {
            MaskTouch x = Due.field(FIELD);
            for (int i = 1; i <= acts; i++) {
                x.place(0, i, 0);
            }
            x.feed(1, 2, 3, 4, 5);
            long digest = x.digest();
            due.is("keep behind " + acts + " acts", x.keep(1), 2);
            due.is("keep behind " + acts + " acts: acts", x.count(3), Math.min(acts, 10));
            due.is("keep behind " + acts + " acts: the tape", x.count(4), 20);
            due.is("keep behind " + acts + " acts: all", x.digest(), digest);
            due.is("keep behind " + acts + " acts: undo", x.undo(), Math.min(acts, 10) - 1);
        }
    }

    private static void backNone() {
        edge.still(FIELD, "back shelf -1", x -> x.back(-1), -1);
        edge.still(FIELD, "back shelf 2", x -> x.back(2), -1);
        MaskTouch x = Due.field(FIELD);
        x.place(0, 3, 3);
        x.feed(1, 2, 3, 4, 5);
        long digest = x.digest();
        for (int shelf = 0; shelf <= 1; shelf++) {
            due.is("back of nothing, " + shelf, x.back(shelf), -2);
            due.is("back of nothing: acts", x.count(3), 1);
            due.is("back of nothing: the tape", x.count(4), 20);
            due.is("back of nothing: shelves", x.count(5), 0);
            due.is("back of nothing: all", x.digest(), digest);
        }
        due.is("back of no shelf, where nothing is kept", x.back(2), -1);
        due.is("back of no shelf below, where nothing is kept", x.back(-1), -1);
        due.is("back refused: undo", x.undo(), 0);
        due.is("back refused: undone", x.body(0, 1), 0);
    }

    private static void backAll() {
        MaskTouch x = Due.field("mask #./.#;mask .#.;body 0 1 2 flip 1 layer 3 4 moves 5 6;body 1 -7 -8");
        x.ticks(2);
        x.keep(0);
        long digest = x.digest();
        Due.tell(x, "mask box 100 40" + ";mask #".repeat(7) + ";body 0 0 0".repeat(10));
        x.ticks(20);
        for (int i = 0; i < 12; i++) {
            x.turn(0, i, 0);
        }
        due.is("back", x.back(0), 2);
        due.is("back: masks", x.count(0), 2);
        due.is("back: bodies", x.count(1), 2);
        due.is("back: dots", x.count(2), 3);
        due.is("back: acts", x.count(3), 0);
        due.is("back: ticks", x.count(6), 2);
        due.is("back: all", x.digest(), digest);
        due.is("back: no third mask", x.mask(2, 0), -1);
        due.is("back: no third body", x.body(2, 0), -2000);
        due.is("back: undo", x.undo(), -1);
        due.is("back: as it lies, flipped", x.at(12, 14), 1);
        // Acts are counted from there on.
        x.place(0, 0, 0);
        due.is("back: an act then", x.count(3), 1);
        due.is("back: an act undone then", x.undo(), 0);
        due.is("back: all, again", x.digest(), digest);
        // Back to what there is: nothing changes, but nothing can be undone.
        x.place(0, 0, 0);
        x.keep(1);
        due.is("back to what there is", x.back(1), 2);
        due.is("back to what there is: undo", x.undo(), -1);
        due.is("back to what there is: x", x.body(0, 1), 0);
    }

    private static void backLeavesTapeAndShelves() {
        MaskTouch x = Due.field(FIELD);
        x.keep(0);
        Due.tape(x, "mask ####");
        due.is("back", x.back(0), 2);
        due.is("back: the tape stays", x.count(4), 9);
        due.is("back: shelves stay", x.count(5), 1);
        due.is("back: the tape tells", x.tell(), 0);
        due.is("back: what the tape tells", x.mask(0, 0), 4);
        due.is("back of the shelf once more", x.back(0), 2);
    }

    private static void digestAtFirst() {
        due.is("digest of a new one", new MaskTouch().digest(), 17);
        due.is("digest of nothing", Due.field("").digest(), 17);
        due.is("digest of one place", Due.field("mask .").digest(), 17L * 31 * 31);
        due.is("digest of one dot", Due.field("mask #").digest(), (17L * 31 + 1) * 31);
        due.is("digest of a wide row", Due.field("mask " + ".".repeat(64) + "#").digest(), 17L * 31 * 31 + 1);
    }

    private static void digestGoesRound() {
        MaskTouch x = Due.field("mask box 100 40");
        long want = 17;
        for (int y = 0; y < 40; y++) {
            want = (want * 31 - 1) * 31 + ((1L << 36) - 1);
        }
        due.is("digest of the largest", x.digest(), want);
        java.math.BigInteger exact = java.math.BigInteger.valueOf(17);
        java.math.BigInteger by = java.math.BigInteger.valueOf(31);
        for (int y = 0; y < 40; y++) {
            exact = exact.multiply(by).add(java.math.BigInteger.valueOf(-1)).multiply(by)
                .add(java.math.BigInteger.valueOf((1L << 36) - 1));
        }
        due.is("digest goes round", x.digest(), exact.longValue());
    }

    private static void digestOfAll() {
        // Bodies first, each 0 to 7, then masks, each row with both words.
        MaskTouch x = Due.field("mask #/.;body 0 -999 999 flip 3 layer 15 0 moves -20 20;mask ##;body 1 5 6");
        long want = 17;
        for (long n : new long[] {0, -999, 999, 3, 15, 0, -20, 20, 1, 5, 6, 0, 1, 1, 0, 0, 1, 0, 0, 0, 3, 0}) {
            want = 31 * want + n;
        }
        due.is("digest of all", x.digest(), want);
        x.ticks(1);
        x.undo();
        x.keep(0);
        x.feed(1, 2, 3, 4, 5);
        due.is("digest leaves the tape and shelves out", x.digest(), want);
    }

    private static void countWhat() {
        for (int what : new int[] {-1, -2, 7, 8, 100}) {
            edge.still(FIELD, "count " + what, x -> x.count(what), -1);
        }
        edge.still(FIELD, "count 0", x -> x.count(0), 2);
        edge.still(FIELD, "count 1", x -> x.count(1), 2);
        edge.still(FIELD, "count 2", x -> x.count(2), 3);
        edge.still(FIELD, "count 5", x -> x.count(5), 3);
        MaskTouch full = Due.field("mask box 100 40" + ";mask box 100 40".repeat(7) + ";body 0 0 0".repeat(10));
        due.is("count 8 masks", full.count(0), 8);
        due.is("count 10 bodies", full.count(1), 10);
        due.is("count the most dots", full.count(2), 32000);
        MaskTouch empty = Due.field("mask .;mask ../..");
        due.is("count masks without dots", empty.count(0), 2);
        due.is("count no dots", empty.count(2), 0);
        MaskTouch x = new MaskTouch();
        int[] shelves = {1, 0, 1};
        int[] bits = {2, 3, 3};
        for (int i = 0; i < 3; i++) {
            x.keep(shelves[i]);
            due.is("count shelves", x.count(5), bits[i]);
        }
    }

    private static void countTicks() {
        MaskTouch x = new MaskTouch();
        due.is("ticks of a new one", x.count(6), 0);
        x.ticks(3);
        due.is("ticks ahead of any field", x.count(6), 3);
        Due.tell(x, FIELD);
        due.is("ticks of a field just told", x.count(6), 0);
        x.ticks(20);
        x.ticks(1);
        due.is("ticks 21", x.count(6), 21);
        x.ticks(0);
        x.ticks(21);
        due.is("ticks refused", x.count(6), 21);
        Due.tell(x, "mask");
        due.is("ticks behind a fault", x.count(6), 21);
        x.undo();
        due.is("ticks undone", x.count(6), 20);
        x.keep(0);
        x.ticks(5);
        x.back(0);
        due.is("ticks back", x.count(6), 20);
        for (int i = 0; i < 12; i++) {
            x.ticks(20);
        }
        due.is("ticks 260", x.count(6), 260);
        Due.tell(x, "");
        due.is("ticks of nothing told", x.count(6), 0);
    }

    /** An object is used for 512 calls: the last is as good as the first. */
    private static void calls512() {
        MaskTouch x = new MaskTouch();
        for (int calls = 0; calls < 504; calls += 6) {
            x.feed(0x6D61736B, 0x20232E3B, 0x626F6479, 0x20302030, 0x20302020);
            x.tell();
            x.ticks(1);
            x.turn(0, 1, 0);
            x.keep(0);
            x.undo();
        }
        due.is("call 505", x.count(6), 1);
        due.is("call 506", x.count(3), 1);
        due.is("call 507", x.place(0, 5, 5), 1);
        due.is("call 508", x.undo(), 1);
        due.is("call 509", x.keep(1), 1);
        due.is("call 510", x.back(0), 1);
        due.is("call 511", x.dot(0, 1, 0), 1);
        due.is("call 512", x.at(1, 0), 1);
    }
}
