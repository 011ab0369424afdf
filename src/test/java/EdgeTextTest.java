/** Boundary cases of the TEXT and its FAULTS ("Terms") and of promises 1 to 4, sentence by sentence. */
public final class EdgeTextTest {
    private static final Due due = new Due();
    private static final Edge edge = new Edge(due);

    public static void main(String[] args) {
        newObject();
        feedUpTo400();
        feedHighestFirst();
        endWithin();
        tellInPlace();
        tellNothing();
        atMost400Bytes();
        atMost8Masks();
        atMost10Bodies();
        boxes();
        frames();
        disks();
        signsOfRows();
        numberOfRows();
        rowsOfOneLength();
        maskToldAhead();
        placesOfBodies();
        flips();
        layers();
        moves();
        whatIsNotTold();
        orderOfWhatIsTold();
        wordsGoOn();
        numbersGoOn();
        blanksBetween();
        textThatEnds();
        formsThatEnd();
        everyByte();
        ofOnePlaceTheLeast();
        theFirstPlace();
        due.close();
    }

    /** The text is a field, in place of the one there was; shelves stay. */
    private static MaskTouch good(String text, int masks, int bodies) {
        MaskTouch x = Edge.busy("mask ###;body 0 1 1;body 0 2 2", 4);
        x.ticks(3);
        due.is("<" + text + ">", Due.tell(x, text), bodies);
        due.is("<" + text + ">: masks", x.count(0), masks);
        due.is("<" + text + ">: bodies", x.count(1), bodies);
        due.is("<" + text + ">: acts", x.count(3), 0);
        due.is("<" + text + ">: tape", x.count(4), 0);
        due.is("<" + text + ">: shelves", x.count(5), 3);
        due.is("<" + text + ">: ticks", x.count(6), 0);
        return x;
    }

    /** The text is none: this is its fault, and but for the tape nothing happens. */
    private static void bad(String text, int place, int kind) {
        due.is("<" + text + "> of a new object", Due.tell(new MaskTouch(), text), Edge.fault(place, kind));
        for (int acts : new int[] {0, 4, 12}) {
            MaskTouch x = Edge.busy("mask ###/#.#;body 0 1 1;body 0 2 2 moves 1 2", acts);
            MaskTouch twin = Edge.busy("mask ###/#.#;body 0 1 1;body 0 2 2 moves 1 2", acts);
            x.ticks(2);
            twin.ticks(2);
            twin.end(0);
            due.is("<" + text + ">", Due.tell(x, text), Edge.fault(place, kind));
            due.is("<" + text + ">: tape", x.count(4), 0);
            due.is("<" + text + ">: nothing happens", Edge.portrait(x).equals(Edge.portrait(twin)) ? 1 : 0, 1);
        }
    }

    // ---- promises 1 to 4

    private static void newObject() {
        MaskTouch x = new MaskTouch();
        for (int what = 0; what <= 6; what++) {
            due.is("new: count " + what, x.count(what), 0);
        }
        due.is("new: no mask 0", x.mask(0, 0), -1);
        due.is("new: no body 0", x.body(0, 0), -2000);
        due.is("new: undo", x.undo(), -1);
        due.is("new: shelf 0", x.back(0), -2);
        due.is("new: shelf 1", x.back(1), -2);
        due.is("new: tell", x.tell(), 0);
    }

    private static void feedUpTo400() {
        MaskTouch x = new MaskTouch();
        for (int i = 1; i <= 19; i++) {
            due.is("feed " + i, x.feed(0x20202020, 0x20202020, 0x20202020, 0x20202020, 0x20202020), 20 * i);
        }
        due.is("feed to 400", x.feed(0x20202020, 0x20202020, 0x20202020, 0x20202020, 0x20202020), 400);
        due.is("feed to 420", x.feed(0x78787878, 0x78787878, 0x78787878, 0x78787878, 0x78787878), -1);
        due.is("feed to 420: none comes", x.count(4), 400);
        due.is("end 381", x.end(381), 381);
        due.is("feed to 401", x.feed(0x78787878, 0x78787878, 0x78787878, 0x78787878, 0x78787878), -1);
        due.is("feed to 401: none comes", x.count(4), 381);
        due.is("feed refused: the bytes stay blanks", x.tell(), 0);
        for (int i = 1; i <= 19; i++) {
            x.feed(0x20202020, 0x20202020, 0x20202020, 0x20202020, 0x20202020);
        }
        due.is("feed from 380", x.feed(0x20202020, 0x20202020, 0x20202020, 0x20202020, 0x20202078), 400);
        due.is("feed from 380: the last byte", x.tell(), Edge.fault(399, 1));
        for (int i = 1; i <= 19; i++) {
            x.feed(0x20202020, 0x20202020, 0x20202020, 0x20202020, 0x20202020);
        }
        x.end(379);
        due.is("feed from 379", x.feed(0x20202020, 0x20202020, 0x20202020, 0x20202020, 0x20202078), 399);
        due.is("feed from 399", x.feed(0, 0, 0, 0, 0), -1);
        due.is("feed from 379: the last byte", x.tell(), Edge.fault(398, 1));
    }

    private static void feedHighestFirst() {
        // Of twenty bytes, each in turn is the only one that is no blank.
        for (int i = 0; i < 20; i++) {
            int[] five = {0x20202020, 0x20202020, 0x20202020, 0x20202020, 0x20202020};
            // 0xA0 is a blank with its highest bit set: the byte counts with all of its bits.
            five[i / 4] |= 0x80 << (24 - 8 * (i % 4));
            MaskTouch x = new MaskTouch();
            due.is("feed byte " + i, x.feed(five[0], five[1], five[2], five[3], five[4]), 20);
            due.is("feed byte " + i + ": its place", x.tell(), Edge.fault(i, 1));
        }
        MaskTouch x = new MaskTouch();
        due.is("feed the greatest and the least", x.feed(Integer.MIN_VALUE, Integer.MAX_VALUE, -1, 0, 1), 20);
        due.is("feed the greatest and the least: no text", x.tell(), Edge.fault(0, 1));
    }

    private static void endWithin() {
        MaskTouch x = new MaskTouch();
        due.is("end 0 of none", x.end(0), 0);
        due.is("end 1 of none", x.end(1), -1);
        due.is("end -1 of none", x.end(-1), -1);
        String field = "mask #;body 0 0 0";
        for (int n : new int[] {-1, Integer.MIN_VALUE, 54, 400, Integer.MAX_VALUE}) {
            edge.still(field, "end " + n, t -> t.end(n), -1);
        }
        edge.still(field, "end at all it has", t -> t.end(53), 53);
        MaskTouch y = Edge.busy(field, 4);
        due.is("end 52", y.end(52), 52);
        due.is("end 52: bytes", y.count(4), 52);
        due.is("end 53 behind it", y.end(53), -1);
        due.is("end 52 once more", y.end(52), 52);
        due.is("end 1", y.end(1), 1);
        due.is("end 1: bytes", y.count(4), 1);
        due.is("end 0", y.end(0), 0);
        due.is("end 0: bytes", y.count(4), 0);
        due.is("end is no act", y.count(3), 4);
        // The first n bytes alone: what is fed then comes right behind them.
        MaskTouch z = new MaskTouch();
        Due.tape(z, "mask #xxxxxx");
        z.end(6);
        z.feed(0x2F2E3B62, 0x6F647920, 0x30203120, 0x32202020, 0x20202020);
        due.is("fed behind an end", z.tell(), 1);
        due.is("fed behind an end: rows", z.mask(0, 1), 2);
        due.is("fed behind an end: y", z.body(0, 2), 2);
    }

    private static void tellInPlace() {
        MaskTouch x = good("mask .#;body 0 3 4", 1, 1);
        due.is("tell: W", x.mask(0, 0), 2);
        due.is("tell: the second body is gone", x.body(1, 0), -2000);
        due.is("tell: nothing can be undone", x.undo(), -1);
        due.is("tell: a shelf stays", x.back(0), 2);
        due.is("tell: a shelf stays, as it was kept", x.mask(0, 0), 3);
        due.is("tell: the other shelf stays", x.back(1), 1);
        due.is("tell: the other shelf stays, as it was kept", x.body(0, 1), 7);
        // A text that is none keeps the ring of acts, full as it was.
        MaskTouch y = Edge.busy("mask #;body 0 0 0", 12);
        due.is("a fault", Due.tell(y, "mask"), Edge.fault(4, 1));
        due.is("a fault: acts", y.count(3), 10);
        due.is("a fault: undo", y.undo(), 9);
    }

    private static void tellNothing() {
        MaskTouch x = good("", 0, 0);
        due.is("tell nothing: digest", x.digest(), 17);
        due.is("tell nothing: undo", x.undo(), -1);
        good(" ", 0, 0);
        good(" ".repeat(400), 0, 0);
    }

    // ---- the text

    private static void atMost400Bytes() {
        String rows = "mask " + "#.#.#.#./".repeat(39) + "########";
        String bodies = ";body 0 1 2;body 0 3 4";
        String full = rows + " ".repeat(400 - rows.length() - bodies.length()) + bodies;
        due.is("a text of 400 bytes", full.length(), 400);
        MaskTouch x = good(full, 1, 2);
        due.is("a text of 400 bytes: its last number", x.body(1, 2), 4);
        bad(full.substring(0, 399) + "x", 399, 1);
        bad(full.substring(0, 399) + ";", 399, 1);
        bad(rows + " ".repeat(399 - rows.length()) + ";", 400, 1);
        bad(" ".repeat(396) + "mask", 400, 1);
        bad(" ".repeat(399) + "m", 399, 1);
        good(" ".repeat(394) + "mask #", 1, 0);
        good("mask #" + " ".repeat(394), 1, 0);
    }

    private static void atMost8Masks() {
        good("mask #" + ";mask #".repeat(6), 7, 0);
        MaskTouch x = good("mask #" + ";mask #".repeat(6) + ";mask ##;body 7 0 0", 8, 1);
        due.is("the eighth mask", x.mask(7, 0), 2);
        due.is("no ninth mask", x.mask(8, 0), -1);
        bad("mask #;".repeat(8) + "mask #", 56, 3);
        bad("mask #;".repeat(8) + "   mask #", 59, 3);
        bad("mask #;".repeat(8) + "mask", 56, 3);
        bad("mask #;".repeat(8) + "mask box 0 0", 56, 3);
        bad("mask #;".repeat(8) + "body 7 0 0;mask #", 67, 3);
        bad("mask #;".repeat(8) + "mask #;mask #", 56, 3);
    }

    private static void atMost10Bodies() {
        good("mask #" + ";body 0 0 0".repeat(9), 1, 9);
        MaskTouch x = good("mask #" + ";body 0 0 0".repeat(9) + ";body 0 5 6", 1, 10);
        due.is("the tenth body", x.body(9, 1), 5);
        due.is("no eleventh body", x.body(10, 1), -2000);
        bad("mask #" + ";body 0 0 0".repeat(11), 117, 3);
        bad("mask #" + ";body 0 0 0".repeat(10) + "; body 5 x", 118, 3);
        bad("mask #" + ";body 0 0 0".repeat(10) + ";body", 117, 3);
        good("mask #" + ";body 0 0 0".repeat(10) + ";mask #".repeat(7), 8, 10);
        bad("mask #" + ";body 0 0 0".repeat(10) + ";mask #".repeat(7) + ";body 0 0 0", 166, 3);
        bad("mask #" + ";body 0 0 0".repeat(10) + ";mask #".repeat(7) + ";mask #", 166, 3);
    }

    private static void boxes() {
        for (int w : new int[] {1, 2, 63, 64, 65, 99, 100}) {
            for (int h : new int[] {1, 2, 39, 40}) {
                MaskTouch x = good("mask box " + w + " " + h, 1, 0);
                due.is("box " + w + " " + h + ": W", x.mask(0, 0), w);
                due.is("box " + w + " " + h + ": H", x.mask(0, 1), h);
                due.is("box " + w + " " + h + ": dots", x.mask(0, 2), w * h);
                due.is("box " + w + " " + h + ": the last dot", x.dot(0, w - 1, h - 1), 1);
                due.is("box " + w + " " + h + ": none beyond", x.dot(0, w, 0) + x.dot(0, 0, h), 0);
            }
        }
        bad("mask box 0 1", 9, 2);
        bad("mask box 101 1", 9, 2);
        bad("mask box 1 0", 11, 2);
        bad("mask box 1 41", 11, 2);
        bad("mask box 100 41", 13, 2);
        bad("mask box 0 0", 9, 2);
        bad("mask box 101 41", 9, 2);
        bad("mask box 40 100", 12, 2);
        bad("mask box -1 1", 9, 1);
        bad("mask box 1 -1", 11, 1);
    }

    private static void frames() {
        int[][] sizes = {{1, 1, 1}, {1, 5, 5}, {5, 1, 5}, {2, 2, 4}, {2, 9, 18}, {9, 2, 18}, {3, 3, 8}, {4, 3, 10},
            {64, 3, 130}, {65, 3, 132}, {66, 3, 134}, {100, 40, 276}, {100, 1, 100}, {1, 40, 40}};
        for (int[] s : sizes) {
            MaskTouch x = good("mask frame " + s[0] + " " + s[1], 1, 0);
            due.is("frame " + s[0] + " " + s[1] + ": W", x.mask(0, 0), s[0]);
            due.is("frame " + s[0] + " " + s[1] + ": H", x.mask(0, 1), s[1]);
            due.is("frame " + s[0] + " " + s[1] + ": dots", x.mask(0, 2), s[2]);
            boolean inner = s[0] > 2 && s[1] > 2;
            due.is("frame " + s[0] + " " + s[1] + ": within its sides", x.dot(0, s[0] - 2, s[1] - 2),
                inner || s[0] < 2 || s[1] < 2 ? 0 : 1);
            due.is("frame " + s[0] + " " + s[1] + ": holes", x.mask(0, 8), inner ? 1 : 0);
        }
        bad("mask frame 0 1", 11, 2);
        bad("mask frame 101 1", 11, 2);
        bad("mask frame 1 0", 13, 2);
        bad("mask frame 1 41", 13, 2);
    }

    private static void disks() {
        // How many places with whole numbers lie within R of one of them.
        int[] dots = {1, 5, 13, 29, 49, 81, 113, 149, 197, 253, 317, 377, 441, 529, 613, 709, 797, 901, 1009, 1129};
        for (int r = 0; r <= 19; r++) {
            MaskTouch x = good("mask disk " + r, 1, 0);
            due.is("disk " + r + ": W", x.mask(0, 0), 2 * r + 1);
            due.is("disk " + r + ": H", x.mask(0, 1), 2 * r + 1);
            due.is("disk " + r + ": dots", x.mask(0, 2), dots[r]);
            due.is("disk " + r + ": like itself turned", x.like(0), 15);
        }
        bad("mask disk 20", 10, 2);
        bad("mask disk -1", 10, 1);
        bad("mask disk", 9, 1);
        // 3 and 4 squared together are 5 squared: at most, so there is a dot; 4 and 4 are more.
        MaskTouch five = good("mask disk 5", 1, 0);
        due.is("disk 5 at 3, 4", five.dot(0, 5 + 3, 5 + 4), 1);
        due.is("disk 5 at -4, 3", five.dot(0, 5 - 4, 5 + 3), 1);
        due.is("disk 5 at 4, 4", five.dot(0, 5 + 4, 5 + 4), 0);
        due.is("disk 5 at 5, 0", five.dot(0, 5 + 5, 5), 1);
        due.is("disk 5 at 5, 1", five.dot(0, 5 + 5, 5 + 1), 0);
        due.is("disk 5 at 0, -5", five.dot(0, 5, 0), 1);
    }

    private static void signsOfRows() {
        MaskTouch one = good("mask #", 1, 0);
        due.is("a row of one: W", one.mask(0, 0), 1);
        for (int w : new int[] {63, 64, 65, 99, 100}) {
            MaskTouch x = good("mask " + ".".repeat(w - 1) + "#", 1, 0);
            due.is("a row of " + w + ": W", x.mask(0, 0), w);
            due.is("a row of " + w + ": its dot", x.mask(0, 3), w - 1);
        }
        bad("mask ", 5, 1);
        bad("mask ;", 5, 1);
        bad("mask " + "#".repeat(101), 105, 4);
        bad("mask " + ".".repeat(101), 105, 4);
        bad("mask   " + ".".repeat(101), 107, 4);
        bad("mask " + ".".repeat(102) + "/" + ".".repeat(100), 105, 4);
        bad("mask " + ".".repeat(101) + "x", 105, 4);
        bad("mask " + ".".repeat(100) + "x", 105, 1);
        bad("mask " + ".".repeat(395), 105, 4);
        good("mask " + "#".repeat(100) + "/" + "#".repeat(100) + "/" + "#".repeat(100), 1, 0);
        bad("mask # #", 7, 1);
        bad("mask ## .", 8, 1);
    }

    private static void numberOfRows() {
        MaskTouch x = good("mask " + "./".repeat(38) + "#", 1, 0);
        due.is("39 rows", x.mask(0, 1), 39);
        x = good("mask " + "./".repeat(39) + "#", 1, 0);
        due.is("40 rows", x.mask(0, 1), 40);
        due.is("the 40th row", x.mask(0, 4), 39);
        x = good("mask " + ". / ".repeat(39) + "#", 1, 0);
        due.is("40 rows with blanks", x.mask(0, 1), 40);
        bad("mask " + "./".repeat(40) + "#", 85, 3);
        bad("mask " + "./".repeat(40) + "  .", 87, 3);
        bad("mask " + "./".repeat(40) + "./.", 85, 3);
        bad("mask " + "./".repeat(39) + "./", 85, 1);
        bad("mask " + "./".repeat(40) + ";", 85, 1);
        bad("mask " + "./".repeat(40) + "/", 85, 1);
        good("mask " + "./".repeat(39) + ".;mask " + "./".repeat(39) + ".", 2, 0);
    }

    private static void rowsOfOneLength() {
        good("mask ##/##", 1, 0);
        bad("mask ##/#", 8, 4);
        bad("mask ##/###", 8, 4);
        bad("mask ##/  ###", 10, 4);
        bad("mask ##/##/#", 11, 4);
        bad("mask ##/##/###", 11, 4);
        bad("mask ##/#/##", 8, 4);
        bad("mask ##/# #", 8, 4);
        bad("mask " + "#".repeat(100) + "/" + "#".repeat(99), 106, 4);
        bad("mask " + "#".repeat(100) + "/" + "#".repeat(101), 106, 4);
        bad("mask #/" + "#".repeat(101), 7, 4);
        // The length is that of the first row of the same mask.
        good("mask ##;mask ###/###;mask #/#", 3, 0);
    }

    private static void maskToldAhead() {
        bad("body 0 0 0", 5, 2);
        good("mask #;body 0 0 0", 1, 1);
        bad("mask #;body 1 0 0", 12, 2);
        bad("mask #;body 1 0 0;mask #", 12, 2);
        good("mask #;body 0 0 0;mask #;body 1 0 0", 2, 2);
        bad("mask #;mask #;body 2 0 0", 19, 2);
        bad("mask #;body -0 0 0", 12, 1);
        bad("mask #;body 4294967296 0 0", 12, 2);
        bad("mask #;body 256 0 0", 12, 2);
    }

    private static void placesOfBodies() {
        for (int n : new int[] {-999, -998, -1, 0, 1, 998, 999}) {
            MaskTouch x = good("mask #;body 0 " + n + " 0;body 0 0 " + n, 1, 2);
            due.is("x " + n, x.body(0, 1), n);
            due.is("y " + n, x.body(1, 2), n);
            due.is("the dot lies there", x.at(n, 0) & 1, 1);
        }
        bad("mask #;body 0 1000 0", 14, 2);
        bad("mask #;body 0 -1000 0", 15, 2);
        bad("mask #;body 0 - 1000 0", 16, 2);
        bad("mask #;body 0 0 1000", 16, 2);
        bad("mask #;body 0 0 -1000", 17, 2);
        bad("mask #;body 0 4294967297 0", 14, 2);
        bad("mask #;body 0 -4294967297 0", 15, 2);
        bad("mask #;body 0 --1 0", 15, 1);
        bad("mask #;body 0 +1 0", 14, 1);
        bad("mask #;body 0 - - 1 0", 16, 1);
        MaskTouch zero = good("mask #;body 0 -0 - 0", 1, 1);
        due.is("-0 is 0: x", zero.body(0, 1), 0);
        due.is("-0 is 0: y", zero.body(0, 2), 0);
    }

    private static void flips() {
        for (int flip = 0; flip <= 3; flip++) {
            MaskTouch x = good("mask #../...;body 0 0 0 flip " + flip, 1, 1);
            due.is("flip " + flip, x.body(0, 3), flip);
            // 1, 3: x is told from the right on; 2, 3: y from below.
            int dotX = flip == 1 || flip == 3 ? 2 : 0;
            int dotY = flip >= 2 ? 1 : 0;
            for (int px = 0; px < 3; px++) {
                for (int py = 0; py < 2; py++) {
                    due.is("flip " + flip + " at " + px + ", " + py, x.at(px, py), px == dotX && py == dotY ? 1 : 0);
                }
            }
        }
        bad("mask #;body 0 0 0 flip 4", 23, 2);
        bad("mask #;body 0 0 0 flip -1", 23, 1);
        bad("mask #;body 0 0 0 flip", 22, 1);
    }

    private static void layers() {
        for (int n : new int[] {0, 1, 14, 15}) {
            MaskTouch x = good("mask #;body 0 0 0 layer " + n + " 7;body 0 0 0 layer 7 " + n, 1, 2);
            due.is("own " + n, x.body(0, 4), n);
            due.is("sees 7", x.body(0, 5), 7);
            due.is("own 7", x.body(1, 4), 7);
            due.is("sees " + n, x.body(1, 5), n);
        }
        bad("mask #;body 0 0 0 layer 16 0", 24, 2);
        bad("mask #;body 0 0 0 layer 0 16", 26, 2);
        bad("mask #;body 0 0 0 layer -1 0", 24, 1);
        bad("mask #;body 0 0 0 layer 0 -1", 26, 1);
        bad("mask #;body 0 0 0 layer 1", 25, 1);
    }

    private static void moves() {
        for (int n : new int[] {-20, -19, -1, 0, 1, 19, 20}) {
            MaskTouch x = good("mask #;body 0 0 0 moves " + n + " 3;body 0 0 0 moves 3 " + n, 1, 2);
            due.is("vx " + n, x.body(0, 6), n);
            due.is("vy 3", x.body(0, 7), 3);
            due.is("vx 3", x.body(1, 6), 3);
            due.is("vy " + n, x.body(1, 7), n);
        }
        bad("mask #;body 0 0 0 moves 21 0", 24, 2);
        bad("mask #;body 0 0 0 moves -21 0", 25, 2);
        bad("mask #;body 0 0 0 moves 0 21", 26, 2);
        bad("mask #;body 0 0 0 moves 0 -21", 27, 2);
        bad("mask #;body 0 0 0 moves 1", 25, 1);
    }

    private static void whatIsNotTold() {
        // The second field comes where the first one told all: nothing of it is left.
        MaskTouch x = good("mask #.;body 0 5 6 flip 3 layer 14 13 moves -12 11", 1, 1);
        due.is("told anew", Due.tell(x, "mask ##;body 0 -1 -2"), 1);
        int[] plain = {0, -1, -2, 0, 1, 1, 0, 0};
        for (int what = 0; what < 8; what++) {
            due.is("not told: " + what, x.body(0, what), plain[what]);
        }
        due.is("not told: as it lies", x.at(-1, -2) + x.at(0, -2), 2);
    }

    private static void orderOfWhatIsTold() {
        good("mask #;body 0 0 0 flip 1 layer 1 1 moves 1 1", 1, 1);
        good("mask #;body 0 0 0 flip 1 moves 1 1", 1, 1);
        good("mask #;body 0 0 0 layer 1 1 moves 1 1", 1, 1);
        good("mask #;body 0 0 0 flip 1 layer 1 1", 1, 1);
        bad("mask #;body 0 0 0 layer 1 1 flip 1", 28, 1);
        bad("mask #;body 0 0 0 moves 1 1 flip 1", 28, 1);
        bad("mask #;body 0 0 0 moves 1 1 layer 1 1", 28, 1);
        bad("mask #;body 0 0 0 flip 1 flip 2", 25, 1);
        bad("mask #;body 0 0 0 layer 1 1 layer 1 1", 28, 1);
        bad("mask #;body 0 0 0 moves 1 1 moves 1 1", 28, 1);
        bad("mask #;body 0 0 0 0", 18, 1);
        bad("mask #;body 0 0 0 #", 18, 1);
        bad("mask # flip 1", 7, 1);
    }

    // ---- words, numbers, blanks

    private static void wordsGoOn() {
        bad("mas #", 0, 1);
        bad("masks #", 0, 1);
        bad("maskbox 1 1", 0, 1);
        bad("Mask #", 0, 1);
        bad("mAsk #", 0, 1);
        bad("bodybody 0 0 0", 0, 1);
        bad("mask bo 1 1", 5, 1);
        bad("mask boxx 1 1", 5, 1);
        bad("mask fram 1 1", 5, 1);
        bad("mask framed 1 1", 5, 1);
        bad("mask dis 1", 5, 1);
        bad("mask disks 1", 5, 1);
        bad("mask mask #", 5, 1);
        bad("box 1 1", 0, 1);
        bad("mask #;body 0 0 0 fli 1", 18, 1);
        bad("mask #;body 0 0 0 flips 1", 18, 1);
        bad("mask #;body 0 0 0 layers 1 1", 18, 1);
        bad("mask #;body 0 0 0 laye 1 1", 18, 1);
        bad("mask #;body 0 0 0 move 1 1", 18, 1);
        bad("mask #;body 0 0 0 movess 1 1", 18, 1);
        bad("mask #;body 0 0 0 flipmoves 1 1", 18, 1);
        bad("mask #;body 0 0 0mask #", 17, 1);
        // Words of the right length, and all but the right letters.
        bad("masc #", 0, 1);
        bad("bask #", 0, 1);
        bad("mask bux 1 1", 5, 1);
    }

    private static void numbersGoOn() {
        MaskTouch x = good("mask box 003 0000000000000000000000000000002", 1, 0);
        due.is("zeros ahead: W", x.mask(0, 0), 3);
        due.is("zeros ahead: H", x.mask(0, 1), 2);
        good("mask box3 2", 1, 0);
        good("mask disk0", 1, 0);
        good("mask #;body0 1 2flip3layer4 5moves6 7", 1, 1);
        good("mask #;body 00 0999 -0999", 1, 1);
        bad("mask box 12", 11, 1);
        bad("mask box 999999999999999999999999999999999999999999 1", 9, 2);
        bad("mask box 4294967297 1", 9, 2);
        bad("mask box 18446744073709551617 1", 9, 2);
        bad("mask box 1000001 1", 9, 2);
        bad("mask box 1 4294967297", 11, 2);
        bad("mask disk 4294967296", 10, 2);
        bad("mask #;body 0 0 0 flip 4294967296", 23, 2);
        bad("mask box 1 1 1", 13, 1);
        bad("mask box 1.1", 10, 1);
    }

    private static void blanksBetween() {
        good("mask#", 1, 0);
        good("   mask   #   /   .   ;   body   0   -   1   2   flip   3   ", 1, 1);
        good("mask #/#;body 0-1-2", 1, 1);
        good("mask #;body 0 0 0 moves-1-2", 1, 1);
        good("mask box 1 1;mask#", 2, 0);
        bad("mas k #", 0, 1);
        bad("mask b ox 1 1", 5, 1);
        bad("mask\t#", 4, 1);
        bad("mask\n#", 4, 1);
        bad("mask\u0000#", 4, 1);
        bad("mask #\u00a0", 6, 1);
        MaskTouch x = good("mask box 1 2;body 0 1 2", 1, 1);
        due.is("a blank parts numbers: H", x.mask(0, 1), 2);
    }

    // ---- faults

    /** A whole text, cut behind each of its bytes. */
    private static void textThatEnds() {
        String text = "mask #;body 0 -1 2 flip 1 layer 2 3 moves -4 5";
        // By how many bytes are left: where the word begins within which it is cut, and what a whole field answers;
        // -1 in both: the text ends where something must come.
        int[] words = new int[47];
        int[] fields = new int[47];
        java.util.Arrays.fill(words, -1);
        java.util.Arrays.fill(fields, -1);
        int[][] within = {{1, 3, 0}, {8, 10, 7}, {20, 22, 19}, {27, 30, 26}, {37, 40, 36}};
        for (int[] w : within) {
            java.util.Arrays.fill(words, w[0], w[1] + 1, w[2]);
        }
        for (int n : new int[] {0, 6}) {
            fields[n] = 0;
        }
        for (int n : new int[] {18, 19, 25, 26, 35, 36, 46}) {
            fields[n] = 1;
        }
        cutAll(text, words, fields);
    }

    private static void formsThatEnd() {
        String text = "mask box 12 3;mask frame 4 5;mask disk 6;mask ##/.#";
        int[] words = new int[52];
        int[] fields = new int[52];
        java.util.Arrays.fill(words, -1);
        java.util.Arrays.fill(fields, -1);
        int[][] within = {{1, 3, 0}, {6, 7, 5}, {15, 17, 14}, {20, 23, 19}, {30, 32, 29}, {35, 37, 34}, {42, 44, 41}};
        for (int[] w : within) {
            java.util.Arrays.fill(words, w[0], w[1] + 1, w[2]);
        }
        for (int n : new int[] {0, 13, 28, 40, 47, 48, 51}) {
            fields[n] = 0;
        }
        fields[50] = Edge.fault(49, 4); // the second row is shorter then
        cutAll(text, words, fields);
    }

    private static void cutAll(String text, int[] words, int[] fields) {
        for (int n = 0; n <= text.length(); n++) {
            int want = fields[n] != -1 ? fields[n] : Edge.fault(words[n] != -1 ? words[n] : n, 1);
            due.is("cut at " + n + ": <" + text.substring(0, n) + ">", Due.tell(new MaskTouch(), text.substring(0, n)), want);
        }
    }

    /** Which of all bytes can stand alone, behind a row, behind a number. */
    private static void everyByte() {
        for (int b = 0; b < 256; b++) {
            char sign = (char) b;
            due.is("byte " + b + " alone", Due.tell(new MaskTouch(), "" + sign), b == 32 ? 0 : Edge.fault(0, 1));
            boolean goesOn = b == '#' || b == '.' || b == 32;
            boolean wantsMore = b == '/' || b == ';';
            due.is("byte " + b + " behind a row", Due.tell(new MaskTouch(), "mask #" + sign),
                goesOn ? 0 : Edge.fault(wantsMore ? 7 : 6, 1));
            boolean digit = b >= '0' && b <= '9';
            due.is("byte " + b + " behind a number", Due.tell(new MaskTouch(), "mask box 1 1" + sign),
                digit || b == 32 ? 0 : Edge.fault(b == ';' ? 13 : 12, 1));
            due.is("byte " + b + " for a number", Due.tell(new MaskTouch(), "mask disk " + sign),
                digit ? 0 : Edge.fault(b == 32 ? 11 : 10, 1));
        }
        String text = "mask #./.#;body 0 -1 12 flip 1 layer 2 3 moves -4 5;mask box 1 2";
        for (int place = 0; place < text.length(); place++) {
            for (int b = 0; b < 256; b++) {
                String changed = text.substring(0, place) + (char) b + text.substring(place + 1);
                PlainModel model = new PlainModel();
                for (int[] five : Due.pack(changed)) {
                    model.feed(five[0], five[1], five[2], five[3], five[4]);
                }
                model.end(changed.length());
                due.is("byte " + b + " at " + place, Due.tell(new MaskTouch(), changed), model.tell());
            }
        }
    }

    private static void ofOnePlaceTheLeast() {
        // A word that cannot stand there is no word of a ninth mask, nor of an eleventh body.
        bad("mask #;".repeat(8) + "masks #", 56, 1);
        bad("mask #;".repeat(8) + "mas", 56, 1);
        bad("mask #;".repeat(8), 56, 1);
        bad("mask #" + ";body 0 0 0".repeat(10) + ";bodys", 117, 1);
        // The first sign of a 41st row that is not as long as the first one, too.
        bad("mask " + "./".repeat(40) + "..", 85, 3);
        bad("mask " + "../".repeat(40) + ".", 125, 3);
        bad("mask " + "./".repeat(40) + ".".repeat(101), 85, 3);
    }

    private static void theFirstPlace() {
        bad("mask box 0 0;mask x", 9, 2);
        bad("mask box 1 1 x;mask box 0 0", 13, 1);
        bad("mask ##/#;mask box 0 0", 8, 4);
        bad("mask #;body 1 1000 0", 12, 2);
        bad("mask #;body 0 1000 1000", 14, 2);
        bad("mask #;body 0 0 0 flip 4 layer 16 16", 23, 2);
        bad("mask #;body 0 0 0 layer 16 16", 24, 2);
        bad("mask #;body 0 0 0 moves 21 21", 24, 2);
        bad("mask #; ;mask #", 8, 1);
        bad("mask #;;mask #", 7, 1);
        bad(";mask #", 0, 1);
        bad("mask #;", 7, 1);
        bad("mask #;   ", 10, 1);
        bad("mask #,mask #", 6, 1);
        bad("mask # mask #", 7, 1);
    }
}
