/** Promises 1 to 4: a new object, the tape, and the texts it tells. */
public final class TapeTest {
    private static final Due due = new Due();

    public static void main(String[] args) {
        newObject();
        feeding();
        ending();
        fields();
        faultsOfParts();
        faultsOfMasks();
        faultsOfBodies();
        telling();
        due.close();
    }

    private static void newObject() {
        MaskTouch x = new MaskTouch();
        for (int what = 0; what <= 6; what++) {
            due.is("new: count(" + what + ")", x.count(what), 0);
        }
        due.is("new: digest", x.digest(), 17);
        due.is("new: mask", x.mask(0, 0), -1);
        due.is("new: body", x.body(0, 0), -2000);
    }

    private static void feeding() {
        MaskTouch x = new MaskTouch();
        for (int i = 1; i <= 20; i++) {
            due.is("feed " + i, x.feed(-1, Integer.MIN_VALUE, 0, 7, i), 20 * i);
        }
        due.is("feed beyond 400", x.feed(0, 0, 0, 0, 0), -1);
        due.is("feed beyond 400: none comes", x.count(4), 400);
        x.end(381);
        due.is("feed to 401", x.feed(0, 0, 0, 0, 0), -1);
        x.end(380);
        due.is("feed to 400", x.feed(0, 0, 0, 0, 0), 400);
        MaskTouch y = new MaskTouch();
        // m a s k, blank # . #, / . # . : the highest byte first.
        y.feed(0x6D61736B, 0x20232E23, 0x2F2E232E, 0, 0);
        y.end(12);
        due.is("feed: order of bytes", y.tell(), 0);
        due.is("feed: first row", y.row(0, 0, 0), 5);
        due.is("feed: second row", y.row(0, 1, 0), 2);
    }

    private static void ending() {
        MaskTouch x = new MaskTouch();
        due.is("end of an empty tape", x.end(0), 0);
        due.is("end beyond an empty tape", x.end(1), -1);
        x.feed(1, 2, 3, 4, 5);
        due.is("end beyond", x.end(21), -1);
        due.is("end below 0", x.end(-1), -1);
        due.is("end: nothing happens", x.count(4), 20);
        due.is("end at all", x.end(20), 20);
        due.is("end", x.end(7), 7);
        due.is("end: bytes", x.count(4), 7);
        due.is("end: those behind are gone", x.end(8), -1);
        due.is("feed behind an end", x.feed(0, 0, 0, 0, 0), 27);
    }

    private static void isField(String text, int masks, int bodies) {
        MaskTouch x = new MaskTouch();
        due.is("tell <" + text + ">", Due.tell(x, text), bodies);
        due.is("masks of <" + text + ">", x.count(0), masks);
        due.is("bodies of <" + text + ">", x.count(1), bodies);
    }

    private static void fields() {
        isField("", 0, 0);
        isField("    ", 0, 0);
        isField("mask #", 1, 0);
        isField("mask#", 1, 0);
        isField("  mask   # /  .  ", 1, 0);
        isField("mask box3 2", 1, 0);
        isField("mask box 0003 0000000000000002", 1, 0);
        isField("mask box 100 40;mask frame 1 1;mask disk 19;mask disk0", 4, 0);
        isField("mask #;body0 1 1", 1, 1);
        isField("mask #;body 0 999 -999", 1, 1);
        isField("mask #;body 0 - 5 -0;body 0 -  999 0", 1, 2);
        isField("mask #;body 0 1 2flip3layer1 2moves-1 - 2", 1, 1);
        isField("mask #;body 0 1 2 layer 15 0 moves 20 -20", 1, 1);
        isField("mask #;body 0 1 2 moves 0 0", 1, 1);
        isField("mask .;body 0 0 0;mask ##;body 1 0 0", 2, 2);
        isField("mask #;".repeat(7) + "mask #", 8, 0);
        isField("mask #" + ";body 0 0 0".repeat(10), 1, 10);
        isField("mask " + "#/".repeat(39) + ".", 1, 0);
        isField("mask " + "#".repeat(100) + "/" + ".".repeat(100), 1, 0);
        MaskTouch x = Due.field("mask frame 4 3;mask disk 2;mask frame 1 3;"
            + "body 1 -7 8 flip 3 layer 5 9 moves -20 19;body 2 3 4");
        due.is("frame", x.letter(0, -1), 14);
        due.is("frame dots", x.mask(0, 2), 10);
        due.is("frame inside", x.dot(0, 1, 1) + x.dot(0, 2, 1), 0);
        due.is("frame sides", x.row(0, 1, 0), 9);
        due.is("disk row 0", x.row(1, 0, 0), 4);
        due.is("disk row 1", x.row(1, 1, 0), 14);
        due.is("disk row 2", x.row(1, 2, 0), 31);
        due.is("disk wide", x.mask(1, 0), 5);
        due.is("disk high", x.mask(1, 1), 5);
        due.is("thin frame", x.mask(2, 2), 3);
        int[] told = {1, -7, 8, 3, 5, 9, -20, 19};
        int[] plain = {2, 3, 4, 0, 1, 1, 0, 0};
        for (int what = 0; what < 8; what++) {
            due.is("told " + what, x.body(0, what), told[what]);
            due.is("not told " + what, x.body(1, what), plain[what]);
        }
        MaskTouch large = Due.field("mask disk 19");
        due.is("disk 19: row 0", large.row(0, 0, 0), 1L << 19);
        due.is("disk 19: its middle row", large.row(0, 19, 0), (1L << 39) - 1);
        MaskTouch wide = Due.field("mask " + "#.".repeat(50));
        due.is("signs in the second word", wide.row(0, 0, 1), 0x555555555L);
    }

    private static void fault(String text, int place, int kind) {
        MaskTouch x = new MaskTouch();
        due.is("tell <" + text + ">", Due.tell(x, text), -2 - (8 * place + kind));
        due.is("masks of <" + text + ">", x.count(0), 0);
        due.is("bytes behind <" + text + ">", x.count(4), 0);
    }

    private static void faultsOfParts() {
        fault("x", 0, 1);
        fault("  x", 2, 1);
        fault(";", 0, 1);
        fault("mask #;", 7, 1);
        fault("mask #;  ", 9, 1);
        fault("mask #; ;mask #", 8, 1);
        fault("mask #,mask #", 6, 1);
        fault("mask # mask #", 7, 1);
        fault("Mask #", 0, 1);
        fault("masks #", 0, 1);
        fault("mas #", 0, 1);
        fault("maskbox 1 1", 0, 1);
        fault("bodies 0 0 0", 0, 1);
        fault("mask #\tmask", 6, 1);
        fault("\u0000", 0, 1);
        fault("mask #\u0000", 6, 1);
        fault("mask \u00e9", 5, 1);
        fault("3", 0, 1);
        fault("mask #;".repeat(8) + "mask x", 56, 3);
        fault("mask #;".repeat(8) + "masks", 56, 1);
        fault("mask #;" + "body 0 0 0;".repeat(10) + "body", 117, 3);
        fault("mask #;" + "body 0 0 0;".repeat(10) + "bod", 117, 1);
    }

    private static void faultsOfMasks() {
        fault("mask", 4, 1);
        fault("mask  ", 6, 1);
        fault("mask 3", 5, 1);
        fault("mask boxx 1 1", 5, 1);
        fault("mask bo", 5, 1);
        fault("mask circle 1", 5, 1);
        fault("mask box", 8, 1);
        fault("mask box 1", 10, 1);
        fault("mask box 1 x", 11, 1);
        fault("mask box -1 1", 9, 1);
        fault("mask box 0 1", 9, 2);
        fault("mask box 101 1", 9, 2);
        fault("mask box 4294967297 1", 9, 2);
        fault("mask box 99999999999999999999999999 1", 9, 2);
        fault("mask box 1 0", 11, 2);
        fault("mask box 1 41", 11, 2);
        fault("mask box 1 1 1", 13, 1);
        fault("mask box 1 1/#", 12, 1);
        fault("mask frame 0 3", 11, 2);
        fault("mask frame 3 41", 13, 2);
        fault("mask disk", 9, 1);
        fault("mask disk 20", 10, 2);
        fault("mask disk -1", 10, 1);
        fault("mask #/", 7, 1);
        fault("mask #//#", 7, 1);
        fault("mask /#", 5, 1);
        fault("mask # #", 7, 1);
        fault("mask #x", 6, 1);
        fault("mask ##/#", 8, 4);
        fault("mask ##/###", 8, 4);
        fault("mask ##/#x", 8, 4);
        fault("mask ##/ #", 9, 4);
        fault("mask ##/x", 8, 1);
        fault("mask ##/##/#", 11, 4);
        fault("mask " + "#".repeat(101), 105, 4);
        fault("mask " + "#".repeat(150) + "/x", 105, 4);
        fault("mask #/" + "#".repeat(101), 7, 4);
        fault("mask " + "#".repeat(100) + "/" + "#".repeat(101), 106, 4);
        fault("mask " + "#/".repeat(40) + "#", 85, 3);
        fault("mask " + "#/".repeat(40) + "##", 85, 3);
        fault("mask " + "#/".repeat(40) + "x", 85, 1);
        fault("mask " + "#/".repeat(40), 85, 1);
    }

    private static void faultsOfBodies() {
        fault("body 0 0 0", 5, 2);
        fault("mask #;body 1 0 0", 12, 2);
        fault("mask #;body 1 0 0;mask #", 12, 2);
        fault("mask #;body -0 0 0", 12, 1);
        fault("mask #;body", 11, 1);
        fault("mask #;body 0", 13, 1);
        fault("mask #;body 0 0", 15, 1);
        fault("mask #;body 0 1000 0", 14, 2);
        fault("mask #;body 0 -1000 0", 15, 2);
        fault("mask #;body 0 0 -  1000", 19, 2);
        fault("mask #;body 0 0 --1", 17, 1);
        fault("mask #;body 0 0 -", 17, 1);
        fault("mask #;body 0 0 +1", 16, 1);
        fault("mask #;body 0 0 0 1", 18, 1);
        fault("mask #;body 0 0 0 flip", 22, 1);
        fault("mask #;body 0 0 0 flip 4", 23, 2);
        fault("mask #;body 0 0 0 flip -1", 23, 1);
        fault("mask #;body 0 0 0 flips 1", 18, 1);
        fault("mask #;body 0 0 0 layer 1", 25, 1);
        fault("mask #;body 0 0 0 layer 16 0", 24, 2);
        fault("mask #;body 0 0 0 layer 1 16", 26, 2);
        fault("mask #;body 0 0 0 moves 21 0", 24, 2);
        fault("mask #;body 0 0 0 moves 0 -21", 27, 2);
        fault("mask #;body 0 0 0 moves 0", 25, 1);
        fault("mask #;body 0 0 0 layer 1 1 flip 1", 28, 1);
        fault("mask #;body 0 0 0 moves 1 1 layer 1 1", 28, 1);
        fault("mask #;body 0 0 0 flip 1 flip 1", 25, 1);
    }

    private static void telling() {
        MaskTouch x = Due.field("mask #;body 0 1 1;body 0 2 2");
        x.place(0, 5, 5);
        x.ticks(3);
        x.keep(1);
        long before = x.digest();
        due.is("a fault", Due.tell(x, "mask ##;body 0 0 0;body"), -2 - (8 * 23 + 1));
        due.is("a fault: nothing happens", x.digest(), before);
        due.is("a fault: acts stay", x.count(3), 2);
        due.is("a fault: ticks stay", x.count(6), 3);
        due.is("a fault: the tape is empty", x.count(4), 0);
        due.is("another field", Due.tell(x, "mask ##;mask .;body 0 0 0"), 1);
        due.is("another field: masks", x.count(0), 2);
        due.is("another field: nothing can be undone", x.undo(), -1);
        due.is("another field: ticks", x.count(6), 0);
        due.is("another field: shelves stay", x.count(5), 2);
        due.is("another field: the tape is empty", x.count(4), 0);
        due.is("the empty tape", x.tell(), 0);
        due.is("the empty tape: no masks", x.count(0), 0);
        due.is("back", x.back(1), 2);
        due.is("back: as it was", x.digest(), before);
    }
}
