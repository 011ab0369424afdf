import java.util.Arrays;

/**
 * Masks of dots and bodies that have them: how they lie, touch, slide, push, fall and are seen.
 * The numbered promises of the document say what every call answers.
 */
public final class MaskTouch {
    public static final int NONE = -1;

    private static final int NOT_SO = -2;
    private static final int TOO_FAR = -3;
    private static final int NO_NUMBER = -2000;
    private static final int NO_SLOPE = -2000000;
    private static final int MOST_MASKS = 8;
    private static final int MOST_BODIES = 10;
    private static final int MOST_WIDE = 100;
    private static final int MOST_HIGH = 40;
    private static final int MOST_BYTES = 400;
    private static final int MOST_ACTS = 10;
    private static final int MOST_SHELVES = 2;
    private static final int FED_AT_ONCE = 20;
    private static final int FARTHEST = 999;
    private static final int FASTEST = 20;
    private static final int HIGHEST_LAYERS = 15;
    private static final int HIGHEST_FLIP = 3;
    private static final int LONGEST_WAY = 200;
    private static final int FALL = 200;
    private static final int MOST_TICKS = 20;
    private static final int LAST_FIRST = 300;
    private static final int WIDEST_GAP = 500;

    private final byte[] tape = new byte[MOST_BYTES];
    private int taped = 0;
    private final Field now = new Field();
    private final Field draft = new Field();
    private final Reader reader = new Reader(tape);
    private final Scene scene = new Scene(now);
    private final Mask sketch = new Mask();
    private final Flood flood = new Flood();
    private final Field[] past = new Field[MOST_ACTS];
    private int oldest = 0;
    private int undoable = 0;
    private final Field[] shelves = new Field[MOST_SHELVES];

    public MaskTouch() {
    }

    // ---- the tape

    public int feed(int a, int b, int c, int d, int e) {
        if (taped + FED_AT_ONCE > MOST_BYTES) {
            return NONE;
        }
        tapeNumber(a);
        tapeNumber(b);
        tapeNumber(c);
        tapeNumber(d);
        tapeNumber(e);
        return taped;
    }

    private void tapeNumber(int number) {
        for (int shift = 24; shift >= 0 && taped < MOST_BYTES; shift -= 8) {
            tape[taped] = (byte) (number >> shift);
            taped++;
        }
    }

    public int end(int n) {
        if (n < 0 || n > taped) {
            return NONE;
        }
        taped = n;
        return n;
    }

    public int tell() {
        int fault = reader.readField(taped, draft);
        taped = 0;
        if (fault != 0) {
            return -2 - fault;
        }
        replaceBy(draft);
        return now.bodyCount;
    }

    // ---- acts on bodies

    public int place(int body, int x, int y) {
        if (!isBody(body) || !isWithin(x, FARTHEST) || !isWithin(y, FARTHEST)) {
            return NONE;
        }
        Body b = now.bodies[body];
        if (b.x == x && b.y == y) {
            return NOT_SO;
        }
        remember();
        b.x = x;
        b.y = y;
        return 1;
    }

    public int flip(int body, int flip) {
        if (!isBody(body) || !isFrom0To(flip, HIGHEST_FLIP)) {
            return NONE;
        }
        Body b = now.bodies[body];
        int was = b.flip;
        if (was == flip) {
            return NOT_SO;
        }
        remember();
        b.flip = flip;
        scene.redraw();
        return was;
    }

    public int layers(int body, int own, int sees) {
        if (!isBody(body) || !isFrom0To(own, HIGHEST_LAYERS) || !isFrom0To(sees, HIGHEST_LAYERS)) {
            return NONE;
        }
        Body b = now.bodies[body];
        if (b.own == own && b.sees == sees) {
            return NOT_SO;
        }
        remember();
        b.own = own;
        b.sees = sees;
        return 1;
    }

    public int speed(int body, int vx, int vy) {
        if (!isBody(body) || !isWithin(vx, FASTEST) || !isWithin(vy, FASTEST)) {
            return NONE;
        }
        Body b = now.bodies[body];
        if (b.vx == vx && b.vy == vy) {
            return NOT_SO;
        }
        remember();
        b.vx = vx;
        b.vy = vy;
        return 1;
    }

    // ---- acts on masks

    public int turn(int mask, int x, int y) {
        if (!isMask(mask) || !now.masks[mask].isInside(x, y)) {
            return NONE;
        }
        remember();
        Mask m = now.masks[mask];
        m.toggle(x, y);
        m.measure();
        scene.redraw();
        return m.holds(x, y) ? 1 : 0;
    }

    public int grow(int mask) {
        if (!isMask(mask)) {
            return NONE;
        }
        int had = now.masks[mask].total;
        sketch.becomeGrown(now.masks[mask]);
        if (sketch.total == had) {
            return NOT_SO;
        }
        actBySketch(mask);
        return sketch.total - had;
    }

    public int thin(int mask) {
        if (!isMask(mask)) {
            return NONE;
        }
        int had = now.masks[mask].total;
        sketch.becomeThinned(now.masks[mask]);
        if (sketch.total == had) {
            return NOT_SO;
        }
        actBySketch(mask);
        return had - sketch.total;
    }

    public int join(int mask, int other, int dx, int dy, int how) {
        if (!isMask(mask) || !isMask(other) || !isWithin(dx, 99) || !isWithin(dy, 99) || !isFrom0To(how, 3)) {
            return NONE;
        }
        sketch.becomeJoined(now.masks[mask], now.masks[other], dx, dy, how);
        actBySketch(mask);
        return sketch.total;
    }

    public int crop(int mask) {
        if (!isMask(mask)) {
            return NONE;
        }
        Mask m = now.masks[mask];
        sketch.becomeCropped(m);
        if (m.total == 0 || (sketch.wide == m.wide && sketch.high == m.high)) {
            return NOT_SO;
        }
        for (int i = 0; i < now.bodyCount; i++) {
            Body b = now.bodies[i];
            if (b.mask == mask && (b.x + cutLeft(m, b.flip) > FARTHEST || b.y + cutAbove(m, b.flip) > FARTHEST)) {
                return TOO_FAR;
            }
        }
        remember();
        for (int i = 0; i < now.bodyCount; i++) {
            Body b = now.bodies[i];
            if (b.mask == mask) {
                b.x += cutLeft(m, b.flip);
                b.y += cutAbove(m, b.flip);
            }
        }
        m.become(sketch);
        scene.redraw();
        return m.wide * m.high;
    }

    private static int cutLeft(Mask m, int flip) {
        return (flip & 1) == 0 ? m.left : m.wide - 1 - m.right;
    }

    private static int cutAbove(Mask m, int flip) {
        return (flip & 2) == 0 ? m.top : m.high - 1 - m.bottom;
    }

    public int quarter(int mask) {
        if (!isMask(mask)) {
            return NONE;
        }
        if (now.masks[mask].wide > MOST_HIGH) {
            return NOT_SO;
        }
        sketch.becomeQuartered(now.masks[mask]);
        actBySketch(mask);
        return sketch.wide;
    }

    private void actBySketch(int mask) {
        remember();
        now.masks[mask].become(sketch);
        scene.redraw();
    }

    // ---- acts by which bodies go

    public int slide(int body, int dx, int dy) {
        if (!isBody(body) || !isWithin(dx, LONGEST_WAY) || !isWithin(dy, LONGEST_WAY)) {
            return NONE;
        }
        scene.tryGlide(body, dx, dy);
        if (scene.steps == 0) {
            return NOT_SO;
        }
        remember();
        scene.finishGlide(body);
        return scene.steps;
    }

    public int push(int body, int dx, int dy) {
        if (!isBody(body) || !isWithin(dx, LONGEST_WAY) || !isWithin(dy, LONGEST_WAY)) {
            return NONE;
        }
        int n = wayLength(dx, dy);
        int steps = 0;
        for (int k = 1; k <= n; k++) {
            int stepX = wayPart(k, dx, n) - wayPart(k - 1, dx, n);
            int stepY = wayPart(k, dy, n) - wayPart(k - 1, dy, n);
            int going = scene.goingBy(body, stepX, stepY);
            if (!scene.canAllGo(going, stepX, stepY)) {
                break;
            }
            if (steps == 0) {
                remember();
            }
            scene.moveAll(going, stepX, stepY);
            steps = k;
        }
        return steps == 0 ? NOT_SO : steps;
    }

    public int falls() {
        if (now.bodyCount == 0) {
            return NONE;
        }
        int together = 0;
        // Each round but the last goes a step at least, and no body has more than 1998 ahead of it.
        int mostRounds = 2 * FARTHEST * MOST_BODIES + 1;
        for (int round = 0; round < mostRounds; round++) {
            int before = together;
            for (int i = 0; i < now.bodyCount; i++) {
                scene.tryGlide(i, 0, FALL);
                if (scene.steps > 0) {
                    if (together == 0) {
                        remember();
                    }
                    scene.finishGlide(i);
                    together += scene.steps;
                }
            }
            if (together == before) {
                break;
            }
        }
        return together == 0 ? NOT_SO : together;
    }

    public int ticks(int n) {
        if (n < 1 || n > MOST_TICKS) {
            return NONE;
        }
        remember();
        int stopped = 0;
        for (int k = 0; k < n; k++) {
            for (int i = 0; i < now.bodyCount; i++) {
                if (stopsInTick(i)) {
                    stopped++;
                }
            }
        }
        now.tickCount += n;
        return stopped;
    }

    private boolean stopsInTick(int body) {
        Body b = now.bodies[body];
        scene.tryGlide(body, b.vx, b.vy);
        scene.finishGlide(body);
        if (scene.steps >= wayLength(b.vx, b.vy)) {
            return false;
        }
        b.vx = -b.vx;
        b.vy = -b.vy;
        return true;
    }

    // ---- undone, kept

    public int undo() {
        if (undoable == 0) {
            return NONE;
        }
        undoable--;
        Field last = past[(oldest + undoable) % MOST_ACTS];
        if (last != null) {
            now.become(last);
        }
        scene.redraw();
        return undoable;
    }

    public int keep(int shelf) {
        if (!isFrom0To(shelf, MOST_SHELVES - 1)) {
            return NONE;
        }
        Field kept = shelves[shelf];
        if (kept == null) {
            kept = new Field();
            shelves[shelf] = kept;
        }
        kept.become(now);
        return now.bodyCount;
    }

    public int back(int shelf) {
        if (!isFrom0To(shelf, MOST_SHELVES - 1)) {
            return NONE;
        }
        Field kept = shelves[shelf];
        if (kept == null) {
            return NOT_SO;
        }
        replaceBy(kept);
        return now.bodyCount;
    }

    private void replaceBy(Field other) {
        now.become(other);
        scene.redraw();
        undoable = 0;
    }

    /** Called ahead of the first change of an act, once it is sure that there is one. */
    private void remember() {
        if (undoable == MOST_ACTS) {
            oldest = (oldest + 1) % MOST_ACTS;
            undoable--;
        }
        int slot = (oldest + undoable) % MOST_ACTS;
        Field copy = past[slot];
        if (copy == null) {
            copy = new Field();
            past[slot] = copy;
        }
        copy.become(now);
        undoable++;
    }

    // ---- what masks are

    public int mask(int mask, int what) {
        if (!isMask(mask)) {
            return NONE;
        }
        Mask m = now.masks[mask];
        switch (what) {
            case 0:
                return m.wide;
            case 1:
                return m.high;
            case 2:
                return m.total;
            case 3:
                return m.total == 0 ? NOT_SO : m.left;
            case 4:
                return m.total == 0 ? NOT_SO : m.top;
            case 5:
                return m.total == 0 ? NOT_SO : m.right;
            case 6:
                return m.total == 0 ? NOT_SO : m.bottom;
            case 7:
                return flood.countIslands(m);
            case 8:
                return flood.countHoles(m);
            case 9:
                return m.openSides();
            default:
                return NONE;
        }
    }

    public int dot(int mask, int x, int y) {
        if (!isMask(mask)) {
            return NONE;
        }
        return now.masks[mask].holds(x, y) ? 1 : 0;
    }

    public long row(int mask, int y, int word) {
        if (!isMask(mask) || y < 0 || y >= now.masks[mask].high || !isFrom0To(word, 1)) {
            return 0L;
        }
        return now.masks[mask].words[2 * y + word];
    }

    public int island(int mask, int k, int what) {
        if (!isMask(mask) || k < NONE || !isFrom0To(what, 4)) {
            return NONE;
        }
        Mask m = now.masks[mask];
        if (k == NONE) {
            return what == 0 ? flood.countIslands(m) : NONE;
        }
        if (!flood.findIsland(m, k)) {
            return NONE;
        }
        switch (what) {
            case 0:
                return flood.size;
            case 1:
                return flood.left;
            case 2:
                return flood.top;
            case 3:
                return flood.right;
            default:
                return flood.bottom;
        }
    }

    public int shifts(int mask, int other) {
        if (!isMask(mask) || !isMask(other)) {
            return NONE;
        }
        Mask a = now.masks[mask];
        Mask b = now.masks[other];
        if (a.total == 0 || b.total == 0) {
            return 0;
        }
        int many = 0;
        for (int dy = b.top - a.bottom; dy <= b.bottom - a.top; dy++) {
            for (int dx = b.left - a.right; dx <= b.right - a.left; dx++) {
                if (Mask.shareAny(a, b, -dx, -dy)) {
                    many++;
                }
            }
        }
        return many;
    }

    public int like(int mask) {
        if (!isMask(mask)) {
            return NONE;
        }
        int bits = 0;
        for (int f = 0; f <= HIGHEST_FLIP; f++) {
            sketch.becomeFlipped(now.masks[mask], f);
            if (sketch.isSameAs(now.masks[mask])) {
                bits |= 1 << f;
            }
        }
        return bits;
    }

    public int letter(int mask, int k) {
        if (!isMask(mask) || k < NONE) {
            return NONE;
        }
        Mask m = now.masks[mask];
        int line = m.wide + 1;
        int many = line * m.high - 1;
        if (k == NONE) {
            return many;
        }
        if (k >= many) {
            return NOT_SO;
        }
        int x = k % line;
        if (x == m.wide) {
            return '/';
        }
        return m.holds(x, k / line) ? '#' : '.';
    }

    public int dense(int mask, int w, int h, int what) {
        if (!isMask(mask) || !isFrom0To(what, 2)) {
            return NONE;
        }
        Mask m = now.masks[mask];
        if (w < 1 || w > m.wide || h < 1 || h > m.high) {
            return NONE;
        }
        int most = -1;
        int mostX = 0;
        int mostY = 0;
        for (int y = 0; y <= m.high - h; y++) {
            for (int x = 0; x <= m.wide - w; x++) {
                int many = m.dotsWithin(x, y, w, h);
                if (many > most) {
                    most = many;
                    mostX = x;
                    mostY = y;
                }
            }
        }
        return what == 0 ? most : what == 1 ? mostX : mostY;
    }

    public int dots(int mask, boolean down, int k) {
        if (!isMask(mask) || k < 0) {
            return NONE;
        }
        Mask m = now.masks[mask];
        if (k >= (down ? m.wide : m.high)) {
            return NONE;
        }
        return down ? m.dotsWithin(k, 0, 1, m.high) : m.dotsWithin(0, k, m.wide, 1);
    }

    public int spread(int mask, int what) {
        if (!isMask(mask)) {
            return NONE;
        }
        switch (what) {
            case 0:
                return now.masks[mask].sumOfX();
            case 1:
                return now.masks[mask].sumOfY();
            case 2:
                return now.masks[mask].farthestApart();
            default:
                return NONE;
        }
    }

    public long share(int mask) {
        if (!isMask(mask)) {
            return -1L;
        }
        Mask m = now.masks[mask];
        return bitsOfShare(m.total, m.wide * m.high);
    }

    /** The double next to part / whole, made bit by bit: the language has no way from a double to its bits. */
    private static long bitsOfShare(int part, int whole) {
        if (part <= 0 || part > whole) {
            return 0L;
        }
        int rest = part;
        int exponent = 0;
        while (rest < whole && exponent > -64) {
            rest *= 2;
            exponent--;
        }
        long bits = 0L;
        for (int i = 0; i < 53; i++) {
            bits *= 2L;
            if (rest >= whole) {
                bits++;
                rest -= whole;
            }
            rest *= 2;
        }
        if (rest > whole || (rest == whole && (bits & 1L) == 1L)) {
            bits++;
        }
        // A carry out of the 53 bits runs into the exponent, as it should.
        return ((long) (exponent + 1022) << 52) + bits;
    }

    public int alike(int mask, int other, int flip) {
        if (!isMask(mask) || !isMask(other) || !isFrom0To(flip, HIGHEST_FLIP)) {
            return NONE;
        }
        sketch.becomeFlipped(now.masks[other], flip);
        return sketch.isSameAs(now.masks[mask]) ? 1 : 0;
    }

    // ---- how bodies lie

    public int body(int body, int what) {
        if (!isBody(body) || !isFrom0To(what, 7)) {
            return NO_NUMBER;
        }
        return now.bodies[body].told(what);
    }

    public int common(int body, int other) {
        if (!areTwoBodies(body, other)) {
            return NONE;
        }
        return scene.sharedIfMoved(body, other, 0, 0);
    }

    public int meet(int body, int other, int what) {
        if (!areTwoBodies(body, other) || !isFrom0To(what, 1)) {
            return NO_NUMBER;
        }
        if (!scene.findMeeting(body, other)) {
            return NO_NUMBER;
        }
        return what == 0 ? scene.foundX : scene.foundY;
    }

    public int contact(int k) {
        if (k < NONE) {
            return NONE;
        }
        int many = 0;
        for (int i = 0; i < now.bodyCount; i++) {
            for (int j = i + 1; j < now.bodyCount; j++) {
                if (scene.touchesIfMoved(i, j, 0, 0)) {
                    if (many == k) {
                        return 100 * i + j;
                    }
                    many++;
                }
            }
        }
        return k == NONE ? many : NOT_SO;
    }

    public int sieve(int what) {
        if (!isFrom0To(what, 2)) {
            return NONE;
        }
        int many = 0;
        for (int i = 0; i < now.bodyCount; i++) {
            for (int j = i + 1; j < now.bodyCount; j++) {
                if (passesSieve(i, j, what)) {
                    many++;
                }
            }
        }
        return many;
    }

    private boolean passesSieve(int i, int j, int what) {
        if (what == 0) {
            return scene.mayTouch(i, j);
        }
        if (what == 1) {
            return scene.mayTouch(i, j) && scene.boxesShare(i, j);
        }
        return scene.touchesIfMoved(i, j, 0, 0);
    }

    public int touching(int body) {
        if (!isBody(body)) {
            return NONE;
        }
        int bits = 0;
        for (int i = 0; i < now.bodyCount; i++) {
            if (i != body && scene.touchesIfMoved(body, i, 0, 0)) {
                bits |= 1 << i;
            }
        }
        return bits;
    }

    public int at(int x, int y) {
        int bits = 0;
        for (int i = 0; i < now.bodyCount; i++) {
            if (scene.covers(i, x, y)) {
                bits |= 1 << i;
            }
        }
        return bits;
    }

    public int first(int body, int other, int n) {
        if (!areTwoBodies(body, other) || !isFrom0To(n, LAST_FIRST)) {
            return NONE;
        }
        int vx = now.bodies[body].vx - now.bodies[other].vx;
        int vy = now.bodies[body].vy - now.bodies[other].vy;
        return scene.firstTouchOfTwo(body, other, vx, vy, n);
    }

    public int reach(int body, int dx, int dy, int what) {
        if (!isBody(body) || !isWithin(dx, LONGEST_WAY) || !isWithin(dy, LONGEST_WAY) || !isFrom0To(what, 1)) {
            return NONE;
        }
        scene.tryGlide(body, dx, dy);
        if (what == 0) {
            return scene.steps;
        }
        return scene.stopper == NONE ? NOT_SO : scene.stopper;
    }

    public int gap(int body, int other, int way) {
        if (!areTwoBodies(body, other)) {
            return NONE;
        }
        switch (way) {
            case 0:
                return scene.firstTouchOfTwo(body, other, 1, 0, WIDEST_GAP);
            case 1:
                return scene.firstTouchOfTwo(body, other, -1, 0, WIDEST_GAP);
            case 2:
                return scene.firstTouchOfTwo(body, other, 0, 1, WIDEST_GAP);
            case 3:
                return scene.firstTouchOfTwo(body, other, 0, -1, WIDEST_GAP);
            default:
                return NONE;
        }
    }

    public int apart(int body, int other, int what) {
        if (!areTwoBodies(body, other) || !isFrom0To(what, 2)) {
            return NO_NUMBER;
        }
        scene.findApart(body, other);
        return what == 0 ? scene.found : what == 1 ? scene.foundX : scene.foundY;
    }

    public int best(int body, int other, int what) {
        if (!areTwoBodies(body, other) || !isFrom0To(what, 2)) {
            return NO_NUMBER;
        }
        scene.findBest(body, other);
        return what == 0 ? scene.found : what == 1 ? scene.foundX : scene.foundY;
    }

    public int slope(int body, int other, int what) {
        if (!areTwoBodies(body, other) || !isFrom0To(what, 1)) {
            return NO_SLOPE;
        }
        int dx = what == 0 ? 1 : 0;
        int dy = what == 1 ? 1 : 0;
        return scene.sharedIfMoved(body, other, dx, dy) - scene.sharedIfMoved(body, other, -dx, -dy);
    }

    public int ray(int x, int y, int dx, int dy) {
        if (!isWithin(x, 9999) || !isWithin(y, 9999) || !isWithin(dx, 300) || !isWithin(dy, 300)) {
            return NONE;
        }
        int n = wayLength(dx, dy);
        for (int k = 0; k <= n; k++) {
            int px = x + wayPart(k, dx, n);
            int py = y + wayPart(k, dy, n);
            for (int i = 0; i < now.bodyCount; i++) {
                if (scene.covers(i, px, py)) {
                    return 100 * k + i;
                }
            }
        }
        return NOT_SO;
    }

    public int seen(int body, int other) {
        if (!areTwoBodies(body, other) || !scene.hasDots(body) || !scene.hasDots(other)) {
            return NONE;
        }
        int x = scene.middleX(body);
        int y = scene.middleY(body);
        int dx = scene.middleX(other) - x;
        int dy = scene.middleY(other) - y;
        int n = wayLength(dx, dy);
        int many = 0;
        for (int k = 0; k <= n; k++) {
            if (scene.thirdCovers(body, other, x + wayPart(k, dx, n), y + wayPart(k, dy, n))) {
                many++;
            }
        }
        return many;
    }

    // ---- numbers of all

    public long digest() {
        long number = 17L;
        for (int i = 0; i < now.bodyCount; i++) {
            for (int what = 0; what <= 7; what++) {
                number = 31L * number + now.bodies[i].told(what);
            }
        }
        for (int i = 0; i < now.maskCount; i++) {
            Mask m = now.masks[i];
            for (int k = 0; k < 2 * m.high; k++) {
                number = 31L * number + m.words[k];
            }
        }
        return number;
    }

    public int count(int what) {
        switch (what) {
            case 0:
                return now.maskCount;
            case 1:
                return now.bodyCount;
            case 2:
                return now.dotsOfAll();
            case 3:
                return undoable;
            case 4:
                return taped;
            case 5:
                return (shelves[0] != null ? 1 : 0) + (shelves[1] != null ? 2 : 0);
            case 6:
                return now.tickCount;
            default:
                return NONE;
        }
    }

    // ---- tests of arguments

    private boolean isMask(int mask) {
        return mask >= 0 && mask < now.maskCount;
    }

    private boolean isBody(int body) {
        return body >= 0 && body < now.bodyCount;
    }

    private boolean areTwoBodies(int body, int other) {
        return isBody(body) && isBody(other) && body != other;
    }

    private static boolean isFrom0To(int number, int most) {
        return number >= 0 && number <= most;
    }

    private static boolean isWithin(int number, int most) {
        return number >= -most && number <= most;
    }

    // ---- ways

    private static int wayLength(int dx, int dy) {
        return Math.max(Math.abs(dx), Math.abs(dy));
    }

    /** How far a way of n steps has gone by step k in the direction in which it goes d in all. */
    private static int wayPart(int k, int d, int n) {
        return n <= 0 ? 0 : Math.floorDiv(2 * k * d + n, 2 * n);
    }

    /** Dots in packed rows: two words a row, x 0 being bit 0 of the first one. */
    private static final class Mask {
        int wide;
        int high;
        final long[] words = new long[2 * MOST_HIGH];
        int total;
        int left;
        int top;
        int right;
        int bottom;

        /** Gets its size, and has no dots. */
        void resize(int w, int h) {
            wide = w;
            high = h;
            total = 0;
            Arrays.fill(words, 0L);
        }

        boolean isInside(int x, int y) {
            return x >= 0 && x < wide && y >= 0 && y < high;
        }

        boolean holds(int x, int y) {
            return isInside(x, y) && (words[2 * y + (x >> 6)] >>> (x & 63) & 1L) == 1L;
        }

        void toggle(int x, int y) {
            if (isInside(x, y)) {
                words[2 * y + (x >> 6)] ^= 1L << (x & 63);
            }
        }

        /** Finds anew how many dots there are and within which x, y, after words have changed. */
        void measure() {
            long low = 0L;
            long rest = 0L;
            total = 0;
            top = -1;
            bottom = -1;
            for (int y = 0; y < high; y++) {
                long a = words[2 * y];
                long b = words[2 * y + 1];
                if ((a | b) != 0L) {
                    total += Long.bitCount(a) + Long.bitCount(b);
                    low |= a;
                    rest |= b;
                    top = top < 0 ? y : top;
                    bottom = y;
                }
            }
            left = total == 0 ? -1 : lowestBit(low, rest);
            right = total == 0 ? -1 : highestBit(low, rest);
        }

        void become(Mask other) {
            wide = other.wide;
            high = other.high;
            total = other.total;
            left = other.left;
            top = other.top;
            right = other.right;
            bottom = other.bottom;
            System.arraycopy(other.words, 0, words, 0, words.length);
        }

        void becomeGrown(Mask other) {
            resize(other.wide, other.high);
            for (int k = 0; k < 2 * high; k += 2) {
                long a = other.words[k];
                long b = other.words[k + 1];
                long low = a | a << 1 | a >>> 1 | b << 63;
                long rest = b | b << 1 | a >>> 63 | b >>> 1;
                if (k > 0) {
                    low |= other.words[k - 2];
                    rest |= other.words[k - 1];
                }
                if (k + 3 < 2 * high) {
                    low |= other.words[k + 2];
                    rest |= other.words[k + 3];
                }
                words[k] = low & lowOnes(wide);
                words[k + 1] = rest & highOnes(wide);
            }
            measure();
        }

        void becomeThinned(Mask other) {
            resize(other.wide, other.high);
            // The first and the last row have no neighbours on one side: all their dots go.
            for (int k = 2; k + 3 < 2 * high; k += 2) {
                long a = other.words[k];
                long b = other.words[k + 1];
                words[k] = a & a << 1 & (a >>> 1 | b << 63) & other.words[k - 2] & other.words[k + 2];
                words[k + 1] = b & (b << 1 | a >>> 63) & b >>> 1 & other.words[k - 1] & other.words[k + 3];
            }
            measure();
        }

        void becomeJoined(Mask own, Mask other, int dx, int dy, int how) {
            resize(own.wide, own.high);
            for (int y = 0; y < high; y++) {
                long low = 0L;
                long rest = 0L;
                int from = y - dy;
                if (from >= 0 && from < other.high) {
                    low = shiftedLow(other.words[2 * from], other.words[2 * from + 1], dx) & lowOnes(wide);
                    rest = shiftedHigh(other.words[2 * from], other.words[2 * from + 1], dx) & highOnes(wide);
                }
                words[2 * y] = joined(own.words[2 * y], low, how);
                words[2 * y + 1] = joined(own.words[2 * y + 1], rest, how);
            }
            measure();
        }

        static long joined(long own, long other, int how) {
            switch (how) {
                case 0:
                    return own | other;
                case 1:
                    return own & other;
                case 2:
                    return own & ~other;
                default:
                    return own ^ other;
            }
        }

        /** Becomes what is within the other one's dots; without dots, the other one as it is. */
        void becomeCropped(Mask other) {
            if (other.total == 0) {
                become(other);
                return;
            }
            resize(other.right - other.left + 1, other.bottom - other.top + 1);
            for (int y = 0; y < high; y++) {
                int from = 2 * (y + other.top);
                words[2 * y] = shiftedLow(other.words[from], other.words[from + 1], -other.left);
                words[2 * y + 1] = shiftedHigh(other.words[from], other.words[from + 1], -other.left);
            }
            measure();
        }

        /** The other one must not be wider than a mask may be high. */
        void becomeQuartered(Mask other) {
            resize(other.high, other.wide);
            for (int y = 0; y < other.high; y++) {
                for (int x = 0; x < other.wide; x++) {
                    if (other.holds(x, y)) {
                        toggle(other.high - 1 - y, x);
                    }
                }
            }
            measure();
        }

        void becomeFlipped(Mask other, int flip) {
            if (flip == 0) {
                become(other);
                return;
            }
            resize(other.wide, other.high);
            for (int y = 0; y < high; y++) {
                int from = 2 * ((flip & 2) == 0 ? y : high - 1 - y);
                long low = other.words[from];
                long rest = other.words[from + 1];
                if ((flip & 1) == 0) {
                    words[2 * y] = low;
                    words[2 * y + 1] = rest;
                } else {
                    // Turned round in all 128 bits, the row lies at their upper end.
                    words[2 * y] = shiftedLow(reversed(rest), reversed(low), wide - 128);
                    words[2 * y + 1] = shiftedHigh(reversed(rest), reversed(low), wide - 128);
                }
            }
            measure();
        }

        boolean isSameAs(Mask other) {
            if (wide != other.wide || high != other.high || total != other.total) {
                return false;
            }
            for (int k = 0; k < 2 * high; k++) {
                if (words[k] != other.words[k]) {
                    return false;
                }
            }
            return true;
        }

        /** Sides of dots behind which there is no dot: each two neighbours hide two of four a dot. */
        int openSides() {
            int neighbours = 0;
            for (int k = 0; k < 2 * high; k += 2) {
                long a = words[k];
                long b = words[k + 1];
                neighbours += Long.bitCount(a & (a >>> 1 | b << 63)) + Long.bitCount(b & b >>> 1);
                if (k + 3 < 2 * high) {
                    neighbours += Long.bitCount(a & words[k + 2]) + Long.bitCount(b & words[k + 3]);
                }
            }
            return 4 * total - 2 * neighbours;
        }

        int dotsWithin(int x, int y, int w, int h) {
            long low = shiftedLow(lowOnes(w), highOnes(w), x);
            long rest = shiftedHigh(lowOnes(w), highOnes(w), x);
            int many = 0;
            int last = Math.min(y + h, high);
            for (int line = Math.max(y, 0); line < last; line++) {
                many += Long.bitCount(words[2 * line] & low) + Long.bitCount(words[2 * line + 1] & rest);
            }
            return many;
        }

        int dotsOfRow(int y) {
            if (y < 0 || y >= high) {
                return 0;
            }
            return Long.bitCount(words[2 * y]) + Long.bitCount(words[2 * y + 1]);
        }

        int sumOfX() {
            int sum = 0;
            for (int x = 1; x < wide; x++) {
                sum += x * dotsWithin(x, 0, 1, high);
            }
            return sum;
        }

        int sumOfY() {
            int sum = 0;
            for (int y = 1; y < high; y++) {
                sum += y * dotsOfRow(y);
            }
            return sum;
        }

        /** Two dots farthest apart lie at ends of x + y or of x - y, and these at ends of rows. */
        int farthestApart() {
            int leastSum = MOST_WIDE + MOST_HIGH;
            int mostSum = -MOST_HIGH;
            int leastLess = MOST_WIDE + MOST_HIGH;
            int mostLess = -MOST_HIGH;
            for (int y = 0; y < high; y++) {
                if (dotsOfRow(y) > 0) {
                    int from = lowestBit(words[2 * y], words[2 * y + 1]);
                    int to = highestBit(words[2 * y], words[2 * y + 1]);
                    leastSum = Math.min(leastSum, from + y);
                    mostSum = Math.max(mostSum, to + y);
                    leastLess = Math.min(leastLess, from - y);
                    mostLess = Math.max(mostLess, to - y);
                }
            }
            return total == 0 ? 0 : Math.max(mostSum - leastSum, mostLess - leastLess);
        }

        /** Whether the boxes of dots have a place in common if two lies dx, dy farther than one. */
        static boolean boxesShare(Mask one, Mask two, int dx, int dy) {
            return one.total > 0 && two.total > 0
                && one.left <= two.right + dx && two.left + dx <= one.right
                && one.top <= two.bottom + dy && two.top + dy <= one.bottom;
        }

        /** How many places boxes of dots that share some have in common if two lies dx, dy farther. */
        static int boxPlaces(Mask one, Mask two, int dx, int dy) {
            return (Math.min(one.right, two.right + dx) - Math.max(one.left, two.left + dx) + 1)
                * (Math.min(one.bottom, two.bottom + dy) - Math.max(one.top, two.top + dy) + 1);
        }

        /** How many places one and two have in common if two lies dx, dy farther. */
        static int shared(Mask one, Mask two, int dx, int dy) {
            if (!boxesShare(one, two, dx, dy)) {
                return 0;
            }
            Mask a = dx < 0 ? two : one;
            Mask b = dx < 0 ? one : two;
            int right = dx < 0 ? -dx : dx;
            int down = dx < 0 ? -dy : dy;
            int last = Math.min(a.bottom, b.bottom + down);
            int many = 0;
            for (int y = Math.max(a.top, b.top + down); y <= last; y++) {
                int k = 2 * (y - down);
                long low = b.words[k];
                if (right < 64) {
                    many += Long.bitCount(a.words[2 * y] & low << right);
                }
                many += Long.bitCount(a.words[2 * y + 1] & movedHigh(low, b.words[k + 1], right));
            }
            return many;
        }

        /** Whether one and two have a place in common if two lies dx, dy farther. */
        static boolean shareAny(Mask one, Mask two, int dx, int dy) {
            if (!boxesShare(one, two, dx, dy)) {
                return false;
            }
            Mask a = dx < 0 ? two : one;
            Mask b = dx < 0 ? one : two;
            int right = dx < 0 ? -dx : dx;
            int down = dx < 0 ? -dy : dy;
            int last = Math.min(a.bottom, b.bottom + down);
            for (int y = Math.max(a.top, b.top + down); y <= last; y++) {
                int k = 2 * (y - down);
                long low = b.words[k];
                if (right < 64 && (a.words[2 * y] & low << right) != 0L) {
                    return true;
                }
                if ((a.words[2 * y + 1] & movedHigh(low, b.words[k + 1], right)) != 0L) {
                    return true;
                }
            }
            return false;
        }

        /** The upper word of a row that goes right by 0 to 127 places. */
        static long movedHigh(long low, long high, int right) {
            // Two shifts in place of one by 64, which Java would take for one by 0.
            return right < 64 ? high << right | low >>> 1 >>> (63 - right) : low << (right - 64);
        }

        static long shiftedLow(long low, long high, int by) {
            if (by >= 64 || by <= -128) {
                return 0L;
            }
            if (by >= 0) {
                return low << by;
            }
            return by > -64 ? low >>> -by | high << (64 + by) : high >>> (-by - 64);
        }

        static long shiftedHigh(long low, long high, int by) {
            if (by >= 128 || by <= -64) {
                return 0L;
            }
            return by >= 0 ? movedHigh(low, high, by) : high >>> -by;
        }

        static long lowOnes(int w) {
            return w >= 64 ? -1L : (1L << w) - 1L;
        }

        static long highOnes(int w) {
            return w <= 64 ? 0L : (1L << (w - 64)) - 1L;
        }

        static int lowestBit(long low, long high) {
            return low != 0L ? Long.bitCount((low & -low) - 1L) : 64 + Long.bitCount((high & -high) - 1L);
        }

        static int highestBit(long low, long high) {
            long b = high != 0L ? high : low;
            b |= b >>> 1;
            b |= b >>> 2;
            b |= b >>> 4;
            b |= b >>> 8;
            b |= b >>> 16;
            b |= b >>> 32;
            return Long.bitCount(b) - 1 + (high != 0L ? 64 : 0);
        }

        static long reversed(long bits) {
            long b = bits;
            b = (b & 0x5555555555555555L) << 1 | b >>> 1 & 0x5555555555555555L;
            b = (b & 0x3333333333333333L) << 2 | b >>> 2 & 0x3333333333333333L;
            b = (b & 0x0F0F0F0F0F0F0F0FL) << 4 | b >>> 4 & 0x0F0F0F0F0F0F0F0FL;
            b = (b & 0x00FF00FF00FF00FFL) << 8 | b >>> 8 & 0x00FF00FF00FF00FFL;
            b = (b & 0x0000FFFF0000FFFFL) << 16 | b >>> 16 & 0x0000FFFF0000FFFFL;
            return b << 32 | b >>> 32;
        }
    }

    /** A mask at a place, with all that is told of it. */
    private static final class Body {
        int mask;
        int x;
        int y;
        int flip;
        int own;
        int sees;
        int vx;
        int vy;

        void settle(int ofMask, int atX, int atY) {
            mask = ofMask;
            x = atX;
            y = atY;
            flip = 0;
            own = 1;
            sees = 1;
            vx = 0;
            vy = 0;
        }

        void become(Body other) {
            mask = other.mask;
            x = other.x;
            y = other.y;
            flip = other.flip;
            own = other.own;
            sees = other.sees;
            vx = other.vx;
            vy = other.vy;
        }

        int told(int what) {
            switch (what) {
                case 0:
                    return mask;
                case 1:
                    return x;
                case 2:
                    return y;
                case 3:
                    return flip;
                case 4:
                    return own;
                case 5:
                    return sees;
                case 6:
                    return vx;
                default:
                    return vy;
            }
        }
    }

    /** All that a text tells and that acts change; made once, and written over ever after. */
    private static final class Field {
        final Mask[] masks = new Mask[MOST_MASKS];
        final Body[] bodies = new Body[MOST_BODIES];
        int maskCount = 0;
        int bodyCount = 0;
        int tickCount = 0;

        Field() {
            for (int i = 0; i < MOST_MASKS; i++) {
                masks[i] = new Mask();
            }
            for (int i = 0; i < MOST_BODIES; i++) {
                bodies[i] = new Body();
            }
        }

        void clear() {
            maskCount = 0;
            bodyCount = 0;
            tickCount = 0;
        }

        void become(Field other) {
            maskCount = other.maskCount;
            bodyCount = other.bodyCount;
            tickCount = other.tickCount;
            for (int i = 0; i < maskCount; i++) {
                masks[i].become(other.masks[i]);
            }
            for (int i = 0; i < bodyCount; i++) {
                bodies[i].become(other.bodies[i]);
            }
        }

        int dotsOfAll() {
            int sum = 0;
            for (int i = 0; i < maskCount; i++) {
                sum += masks[i].total;
            }
            return sum;
        }
    }

    /** Bodies of a field as they lie: their masks flipped, who would touch whom, how they glide. */
    private static final class Scene {
        final Field field;
        final Mask[] shapes = new Mask[MOST_BODIES];
        int steps = 0;
        int stopper = NONE;
        int goneX = 0;
        int goneY = 0;
        int found = 0;
        int foundX = 0;
        int foundY = 0;

        Scene(Field of) {
            field = of;
            for (int i = 0; i < MOST_BODIES; i++) {
                shapes[i] = new Mask();
            }
        }

        /** To be called whenever a mask, a flip or the whole field has changed. */
        void redraw() {
            for (int i = 0; i < field.bodyCount; i++) {
                Body b = field.bodies[i];
                shapes[i].becomeFlipped(field.masks[b.mask], b.flip);
            }
        }

        boolean hasDots(int body) {
            return shapes[body].total > 0;
        }

        int middleX(int body) {
            Mask m = shapes[body];
            return Math.floorDiv(2 * field.bodies[body].x + m.left + m.right, 2);
        }

        int middleY(int body) {
            Mask m = shapes[body];
            return Math.floorDiv(2 * field.bodies[body].y + m.top + m.bottom, 2);
        }

        boolean covers(int body, int x, int y) {
            Body b = field.bodies[body];
            return shapes[body].holds(x - b.x, y - b.y);
        }

        boolean thirdCovers(int body, int other, int x, int y) {
            for (int i = 0; i < field.bodyCount; i++) {
                if (i != body && i != other && covers(i, x, y)) {
                    return true;
                }
            }
            return false;
        }

        boolean mayTouch(int body, int other) {
            Body a = field.bodies[body];
            Body b = field.bodies[other];
            return (a.own & b.sees | b.own & a.sees) != 0;
        }

        boolean boxesShare(int body, int other) {
            Body a = field.bodies[body];
            Body b = field.bodies[other];
            return Mask.boxesShare(shapes[body], shapes[other], b.x - a.x, b.y - a.y);
        }

        int sharedIfMoved(int body, int other, int dx, int dy) {
            Body a = field.bodies[body];
            Body b = field.bodies[other];
            return Mask.shared(shapes[body], shapes[other], b.x - a.x - dx, b.y - a.y - dy);
        }

        boolean shareIfMoved(int body, int other, int dx, int dy) {
            Body a = field.bodies[body];
            Body b = field.bodies[other];
            return Mask.shareAny(shapes[body], shapes[other], b.x - a.x - dx, b.y - a.y - dy);
        }

        boolean touchesIfMoved(int body, int other, int dx, int dy) {
            return mayTouch(body, other) && shareIfMoved(body, other, dx, dy);
        }

        /** Which of the moves by 0, 1, .. times dx, dy (most times at most) is the first to touch. */
        int firstTouchOfTwo(int body, int other, int dx, int dy, int most) {
            if (!mayTouch(body, other)) {
                return NOT_SO;
            }
            for (int k = 0; k <= most; k++) {
                if (shareIfMoved(body, other, k * dx, k * dy)) {
                    return k;
                }
            }
            return NOT_SO;
        }

        /** Finds how a body would slide: steps, how far it is gone then, and who stops it. */
        void tryGlide(int body, int dx, int dy) {
            Body b = field.bodies[body];
            int n = wayLength(dx, dy);
            int ahead = stoppersAhead(body, dx, dy);
            steps = 0;
            stopper = NONE;
            goneX = 0;
            goneY = 0;
            for (int k = 1; k <= n; k++) {
                int x = wayPart(k, dx, n);
                int y = wayPart(k, dy, n);
                stopper = leastTouched(body, ahead, x, y);
                if (stopper != NONE || !isWithin(b.x + x, FARTHEST) || !isWithin(b.y + y, FARTHEST)) {
                    return;
                }
                steps = k;
                goneX = x;
                goneY = y;
            }
        }

        /** Bodies, as bits, that can stop one: not touched as it sets out, and not off its whole way. */
        int stoppersAhead(int body, int dx, int dy) {
            int bits = 0;
            for (int i = 0; i < field.bodyCount; i++) {
                if (i != body && mayTouch(body, i) && wayPasses(body, i, dx, dy)
                    && !shareIfMoved(body, i, 0, 0)) {
                    bits |= 1 << i;
                }
            }
            return bits;
        }

        /** Whether the box that the way of a body's box fills has a place in common with another box. */
        boolean wayPasses(int body, int other, int dx, int dy) {
            Mask m = shapes[body];
            Mask o = shapes[other];
            int x = field.bodies[other].x - field.bodies[body].x;
            int y = field.bodies[other].y - field.bodies[body].y;
            return m.total > 0 && o.total > 0
                && m.left + Math.min(dx, 0) <= o.right + x && o.left + x <= m.right + Math.max(dx, 0)
                && m.top + Math.min(dy, 0) <= o.bottom + y && o.top + y <= m.bottom + Math.max(dy, 0);
        }

        int leastTouched(int body, int among, int dx, int dy) {
            for (int i = 0; i < field.bodyCount; i++) {
                if ((among >> i & 1) == 1 && shareIfMoved(body, i, dx, dy)) {
                    return i;
                }
            }
            return NONE;
        }

        void finishGlide(int body) {
            field.bodies[body].x += goneX;
            field.bodies[body].y += goneY;
        }

        /** Bodies, as bits, that go if a body is pushed by one step: itself, and whom they come to touch. */
        int goingBy(int body, int dx, int dy) {
            int going = 1 << body;
            int asked = 0;
            // Each round asks one body that goes, so there are no more rounds than bodies.
            for (int round = 0; round < field.bodyCount && asked != going; round++) {
                int next = going & ~asked;
                int one = Integer.bitCount((next & -next) - 1);
                asked |= 1 << one;
                for (int i = 0; i < field.bodyCount; i++) {
                    if ((going >> i & 1) == 0 && touchesIfMoved(one, i, dx, dy) && !shareIfMoved(one, i, 0, 0)) {
                        going |= 1 << i;
                    }
                }
            }
            return going;
        }

        boolean canAllGo(int going, int dx, int dy) {
            for (int i = 0; i < field.bodyCount; i++) {
                Body b = field.bodies[i];
                if ((going >> i & 1) == 1 && (!isWithin(b.x + dx, FARTHEST) || !isWithin(b.y + dy, FARTHEST))) {
                    return false;
                }
            }
            return true;
        }

        void moveAll(int going, int dx, int dy) {
            for (int i = 0; i < field.bodyCount; i++) {
                if ((going >> i & 1) == 1) {
                    field.bodies[i].x += dx;
                    field.bodies[i].y += dy;
                }
            }
        }

        /** Finds the first place that two bodies have in common; false without one. */
        boolean findMeeting(int body, int other) {
            Mask a = shapes[body];
            Mask b = shapes[other];
            int dx = field.bodies[other].x - field.bodies[body].x;
            int dy = field.bodies[other].y - field.bodies[body].y;
            if (!Mask.boxesShare(a, b, dx, dy)) {
                return false;
            }
            int last = Math.min(a.bottom, b.bottom + dy);
            for (int y = Math.max(a.top, b.top + dy); y <= last; y++) {
                int k = 2 * (y - dy);
                long low = a.words[2 * y] & Mask.shiftedLow(b.words[k], b.words[k + 1], dx);
                long rest = a.words[2 * y + 1] & Mask.shiftedHigh(b.words[k], b.words[k + 1], dx);
                if ((low | rest) != 0L) {
                    foundX = field.bodies[body].x + Mask.lowestBit(low, rest);
                    foundY = field.bodies[body].y + y;
                    return true;
                }
            }
            return false;
        }

        /** Finds the nearest move of a body that leaves it no place in common with the other one. */
        void findApart(int body, int other) {
            // Up or down by 40 at most two masks are always apart, so one is found by then.
            for (int far = 0; far <= MOST_HIGH; far++) {
                for (int dy = -far; dy <= far; dy++) {
                    int side = far - Math.abs(dy);
                    boolean leftIsFree = !shareIfMoved(body, other, -side, dy);
                    if (leftIsFree || !shareIfMoved(body, other, side, dy)) {
                        found = far;
                        foundX = leftIsFree ? -side : side;
                        foundY = dy;
                        return;
                    }
                }
            }
        }

        /** Finds the place of a body on which it has most places in common with the other one. */
        void findBest(int body, int other) {
            Mask a = shapes[body];
            Mask b = shapes[other];
            int x = field.bodies[other].x;
            int y = field.bodies[other].y;
            found = 0;
            foundX = field.bodies[body].x;
            foundY = field.bodies[body].y;
            if (a.total == 0 || b.total == 0) {
                return;
            }
            // Middle on middle is seldom bad: what cannot be as good is passed over.
            int sure = Mask.shared(a, b, (a.left + a.right - b.left - b.right) / 2,
                (a.top + a.bottom - b.top - b.bottom) / 2);
            for (int down = a.bottom - b.top; down >= a.top - b.bottom; down--) {
                if (mostIfDown(a, b, down) < Math.max(sure, found + 1)) {
                    continue;
                }
                for (int right = a.right - b.left; right >= a.left - b.right; right--) {
                    if (Mask.boxPlaces(a, b, right, down) < Math.max(sure, found + 1)) {
                        continue;
                    }
                    int many = Mask.shared(a, b, right, down);
                    if (many > found) {
                        found = many;
                        foundX = x - right;
                        foundY = y - down;
                    }
                }
            }
        }

        /** No fewer than b can have in common with a if it lies so far down, wherever in x. */
        static int mostIfDown(Mask a, Mask b, int down) {
            int most = 0;
            int last = Math.min(a.bottom, b.bottom + down);
            for (int y = Math.max(a.top, b.top + down); y <= last; y++) {
                most += Math.min(a.dotsOfRow(y), b.dotsOfRow(y - down));
            }
            return most;
        }
    }

    /** Goes through a mask's islands, or through those of its places without dots. */
    private static final class Flood {
        final Mask open = new Mask();
        final int[] queue = new int[MOST_WIDE * MOST_HIGH];
        int queued = 0;
        int size = 0;
        int left = 0;
        int top = 0;
        int right = 0;
        int bottom = 0;

        int countIslands(Mask m) {
            open.become(m);
            int many = 0;
            for (int y = 0; y < open.high; y++) {
                for (int k = 0; k < MOST_WIDE && takeIslandOfRow(y); k++) {
                    many++;
                }
            }
            return many;
        }

        /** False if there are not so many islands. */
        boolean findIsland(Mask m, int wanted) {
            open.become(m);
            int many = 0;
            for (int y = 0; y < open.high; y++) {
                for (int k = 0; k < MOST_WIDE && takeIslandOfRow(y); k++) {
                    if (many == wanted) {
                        return true;
                    }
                    many++;
                }
            }
            return false;
        }

        int countHoles(Mask m) {
            open.become(m);
            for (int k = 0; k < open.high; k++) {
                open.words[2 * k] = ~m.words[2 * k] & Mask.lowOnes(m.wide);
                open.words[2 * k + 1] = ~m.words[2 * k + 1] & Mask.highOnes(m.wide);
            }
            int many = 0;
            for (int y = 0; y < open.high; y++) {
                for (int k = 0; k < MOST_WIDE && takeIslandOfRow(y); k++) {
                    if (left > 0 && top > 0 && right < m.wide - 1 && bottom < m.high - 1) {
                        many++;
                    }
                }
            }
            return many;
        }

        /** Takes the island of the first place of a row that is still open; false without one. */
        boolean takeIslandOfRow(int y) {
            if ((open.words[2 * y] | open.words[2 * y + 1]) == 0L) {
                return false;
            }
            int x = Mask.lowestBit(open.words[2 * y], open.words[2 * y + 1]);
            left = x;
            right = x;
            top = y;
            bottom = y;
            queued = 0;
            take(x, y);
            for (size = 0; size < queued && size < queue.length; size++) {
                int px = queue[size] % MOST_WIDE;
                int py = queue[size] / MOST_WIDE;
                take(px + 1, py);
                take(px - 1, py);
                take(px, py + 1);
                take(px, py - 1);
            }
            return true;
        }

        void take(int x, int y) {
            if (open.holds(x, y) && queued < queue.length) {
                open.toggle(x, y);
                queue[queued] = y * MOST_WIDE + x;
                queued++;
                left = Math.min(left, x);
                right = Math.max(right, x);
                top = Math.min(top, y);
                bottom = Math.max(bottom, y);
            }
        }
    }

    /** Reads a text into a field; every reading method answers false once a fault is found. */
    private static final class Reader {
        static final int WRONG_SIGN = 1;
        static final int WRONG_NUMBER = 2;
        static final int TOO_MANY = 3;
        static final int WRONG_LENGTH = 4;
        static final int MOST_R = 19;
        /** More than any number that may be told: longer ones stay there. */
        static final int HUGE = 1000000;

        final byte[] text;
        int length = 0;
        int spot = 0;
        int wordStart = 0;
        int number = 0;
        int fault = 0;

        Reader(byte[] tape) {
            text = tape;
        }

        /** The fault of the text's first bytes, or 0: no fault is 0, for each has a kind of 1 at least. */
        int readField(int bytes, Field into) {
            length = Math.min(bytes, text.length);
            spot = 0;
            fault = 0;
            into.clear();
            if (isAtEnd()) {
                return fault;
            }
            // A part has a byte at least, so there are no more parts than bytes.
            for (int parts = 0; parts < length; parts++) {
                skipBlanks();
                boolean good = takeWord("mask") ? readMask(into)
                    : takeWord("body") ? readBody(into)
                    : failAt(spot, WRONG_SIGN);
                if (!good || isAtEnd()) {
                    return fault;
                }
                if (!takeSign(';')) {
                    failAt(spot, WRONG_SIGN);
                    return fault;
                }
            }
            return fault;
        }

        boolean readMask(Field into) {
            if (into.maskCount >= MOST_MASKS) {
                return failAt(wordStart, TOO_MANY);
            }
            Mask m = into.masks[into.maskCount];
            into.maskCount++;
            boolean good;
            if (takeWord("box")) {
                good = readSize(m) && fillBox(m);
            } else if (takeWord("frame")) {
                good = readSize(m) && fillFrame(m);
            } else if (takeWord("disk")) {
                good = readNumber(0, MOST_R) && fillDisk(m, number);
            } else {
                good = readRows(m);
            }
            m.measure();
            return good;
        }

        boolean readSize(Mask m) {
            if (!readNumber(1, MOST_WIDE)) {
                return false;
            }
            int w = number;
            if (!readNumber(1, MOST_HIGH)) {
                return false;
            }
            m.resize(w, number);
            return true;
        }

        static boolean fillBox(Mask m) {
            for (int y = 0; y < m.high; y++) {
                m.words[2 * y] = Mask.lowOnes(m.wide);
                m.words[2 * y + 1] = Mask.highOnes(m.wide);
            }
            return true;
        }

        static boolean fillFrame(Mask m) {
            for (int y = 0; y < m.high; y++) {
                for (int x = 0; x < m.wide; x++) {
                    if (x == 0 || y == 0 || x == m.wide - 1 || y == m.high - 1) {
                        m.toggle(x, y);
                    }
                }
            }
            return true;
        }

        static boolean fillDisk(Mask m, int r) {
            m.resize(2 * r + 1, 2 * r + 1);
            for (int y = 0; y < m.high; y++) {
                for (int x = 0; x < m.wide; x++) {
                    if ((x - r) * (x - r) + (y - r) * (y - r) <= r * r) {
                        m.toggle(x, y);
                    }
                }
            }
            return true;
        }

        boolean readRows(Mask m) {
            m.resize(MOST_WIDE, MOST_HIGH);
            int w = 0;
            for (int y = 0; y <= MOST_HIGH; y++) {
                skipBlanks();
                int signs = signsAhead();
                if (signs == 0) {
                    return failAt(spot, WRONG_SIGN);
                }
                if (y == MOST_HIGH) {
                    return failAt(spot, TOO_MANY);
                }
                if (y == 0 && signs > MOST_WIDE) {
                    return failAt(spot + MOST_WIDE, WRONG_LENGTH);
                }
                if (y > 0 && signs != w) {
                    return failAt(spot, WRONG_LENGTH);
                }
                w = signs;
                takeRow(m, y, w);
                skipBlanks();
                if (!takeSign('/')) {
                    m.wide = w;
                    m.high = y + 1;
                    return true;
                }
            }
            return failAt(spot, TOO_MANY);
        }

        int signsAhead() {
            int behind = spot;
            while (behind < length && (text[behind] == '#' || text[behind] == '.')) {
                behind++;
            }
            return behind - spot;
        }

        void takeRow(Mask m, int y, int signs) {
            for (int x = 0; x < signs && spot < length; x++) {
                if (text[spot] == '#') {
                    m.toggle(x, y);
                }
                spot++;
            }
        }

        boolean readBody(Field into) {
            if (into.bodyCount >= MOST_BODIES) {
                return failAt(wordStart, TOO_MANY);
            }
            if (!readNumber(0, into.maskCount - 1)) {
                return false;
            }
            int mask = number;
            if (!readSigned(FARTHEST)) {
                return false;
            }
            int x = number;
            if (!readSigned(FARTHEST)) {
                return false;
            }
            Body b = into.bodies[into.bodyCount];
            into.bodyCount++;
            b.settle(mask, x, number);
            return readFlip(b) && readLayers(b) && readMoves(b);
        }

        boolean readFlip(Body b) {
            if (!takeWord("flip")) {
                return true;
            }
            if (!readNumber(0, HIGHEST_FLIP)) {
                return false;
            }
            b.flip = number;
            return true;
        }

        boolean readLayers(Body b) {
            if (!takeWord("layer")) {
                return true;
            }
            if (!readNumber(0, HIGHEST_LAYERS)) {
                return false;
            }
            b.own = number;
            if (!readNumber(0, HIGHEST_LAYERS)) {
                return false;
            }
            b.sees = number;
            return true;
        }

        boolean readMoves(Body b) {
            if (!takeWord("moves")) {
                return true;
            }
            if (!readSigned(FASTEST)) {
                return false;
            }
            b.vx = number;
            if (!readSigned(FASTEST)) {
                return false;
            }
            b.vy = number;
            return true;
        }

        boolean readSigned(int most) {
            boolean negative = takeSign('-');
            if (!readNumber(0, most)) {
                return false;
            }
            number = negative ? -number : number;
            return true;
        }

        boolean readNumber(int least, int most) {
            skipBlanks();
            int start = spot;
            number = 0;
            while (spot < length && text[spot] >= '0' && text[spot] <= '9') {
                number = Math.min(10 * number + text[spot] - '0', HUGE);
                spot++;
            }
            if (spot == start) {
                return failAt(start, WRONG_SIGN);
            }
            return number >= least && number <= most || failAt(start, WRONG_NUMBER);
        }

        /** Goes behind the word that comes next, if it is this one, whole. */
        boolean takeWord(String word) {
            skipBlanks();
            int behind = spot;
            while (behind < length && text[behind] >= 'a' && text[behind] <= 'z') {
                behind++;
            }
            if (behind - spot != word.length()) {
                return false;
            }
            for (int i = 0; i < word.length() && spot + i < length; i++) {
                if (text[spot + i] != word.charAt(i)) {
                    return false;
                }
            }
            wordStart = spot;
            spot = behind;
            return true;
        }

        boolean takeSign(char sign) {
            skipBlanks();
            if (spot >= length || text[spot] != sign) {
                return false;
            }
            spot++;
            return true;
        }

        boolean isAtEnd() {
            skipBlanks();
            return spot >= length;
        }

        void skipBlanks() {
            while (spot < length && text[spot] == ' ') {
                spot++;
            }
        }

        boolean failAt(int place, int kind) {
            fault = 8 * place + kind;
            return false;
        }
    }
}
