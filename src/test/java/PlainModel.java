import java.util.ArrayDeque;
import java.util.ArrayList;
import java.util.Arrays;
import java.util.List;

/**
 * The document once more, as plainly and slowly as it can be written: a table of booleans a mask,
 * a copy of everything an act. ModelTest holds MaskTouch against it.
 */
public final class PlainModel {
    static final class Shape {
        boolean[][] dots; // [y][x]

        Shape(int w, int h) {
            dots = new boolean[h][w];
        }

        int w() {
            return dots[0].length;
        }

        int h() {
            return dots.length;
        }

        boolean has(int x, int y) {
            return x >= 0 && y >= 0 && y < h() && x < w() && dots[y][x];
        }

        Shape copy() {
            Shape c = new Shape(w(), h());
            for (int y = 0; y < h(); y++) {
                c.dots[y] = dots[y].clone();
            }
            return c;
        }

        int total() {
            return points().size();
        }

        /** By y, then by x. */
        List<int[]> points() {
            List<int[]> all = new ArrayList<>();
            for (int y = 0; y < h(); y++) {
                for (int x = 0; x < w(); x++) {
                    if (dots[y][x]) {
                        all.add(new int[] {x, y});
                    }
                }
            }
            return all;
        }

        Shape flipped(int flip) {
            Shape c = new Shape(w(), h());
            for (int y = 0; y < h(); y++) {
                for (int x = 0; x < w(); x++) {
                    int fromX = flip == 1 || flip == 3 ? w() - 1 - x : x;
                    int fromY = flip == 2 || flip == 3 ? h() - 1 - y : y;
                    c.dots[y][x] = dots[fromY][fromX];
                }
            }
            return c;
        }

        boolean same(Shape o) {
            return Arrays.deepEquals(dots, o.dots);
        }
    }

    static final class Thing {
        int mask, x, y, flip, own = 1, sees = 1, vx, vy;

        Thing copy() {
            Thing t = new Thing();
            t.mask = mask;
            t.x = x;
            t.y = y;
            t.flip = flip;
            t.own = own;
            t.sees = sees;
            t.vx = vx;
            t.vy = vy;
            return t;
        }
    }

    static final class State {
        List<Shape> masks = new ArrayList<>();
        List<Thing> bodies = new ArrayList<>();
        int ticks;

        State copy() {
            State s = new State();
            for (Shape m : masks) {
                s.masks.add(m.copy());
            }
            for (Thing b : bodies) {
                s.bodies.add(b.copy());
            }
            s.ticks = ticks;
            return s;
        }
    }

    static final class Fault extends RuntimeException {
        final int number;

        Fault(int place, int kind) {
            number = 8 * place + kind;
        }
    }

    private List<Integer> tape = new ArrayList<>();
    State s = new State();
    private final ArrayDeque<State> undo = new ArrayDeque<>();
    private final State[] shelves = new State[2];

    // ---- tape and text

    public int feed(int a, int b, int c, int d, int e) {
        if (tape.size() + 20 > 400) {
            return -1;
        }
        for (int n : new int[] {a, b, c, d, e}) {
            tape.add(n >>> 24);
            tape.add(n >>> 16 & 255);
            tape.add(n >>> 8 & 255);
            tape.add(n & 255);
        }
        return tape.size();
    }

    public int end(int n) {
        if (n < 0 || n > tape.size()) {
            return -1;
        }
        tape = new ArrayList<>(tape.subList(0, n));
        return n;
    }

    public int tell() {
        StringBuilder text = new StringBuilder();
        for (int b : tape) {
            text.append((char) b);
        }
        tape.clear();
        try {
            s = new Text(text.toString()).field();
            undo.clear();
            return s.bodies.size();
        } catch (Fault f) {
            return -2 - f.number;
        }
    }

    /** Cuts the text into pieces first: {kind, place, piece}; kinds w, n, r and single signs. */
    static final class Text {
        final List<String> pieces = new ArrayList<>();
        final List<Integer> places = new ArrayList<>();
        int next = 0;

        Text(String text) {
            int i = 0;
            while (i < text.length()) {
                char c = text.charAt(i);
                String class_ = c >= 'a' && c <= 'z' ? "[a-z]" : c >= '0' && c <= '9' ? "[0-9]"
                    : c == '#' || c == '.' ? "[#.]" : null;
                int j = i + 1;
                while (class_ != null && j < text.length() && text.substring(j, j + 1).matches(class_)) {
                    j++;
                }
                if (c != ' ') {
                    pieces.add(text.substring(i, j));
                    places.add(i);
                }
                i = j;
            }
            pieces.add("");
            places.add(text.length());
        }

        String peek() {
            return pieces.get(next);
        }

        int placeNow() {
            return places.get(next);
        }

        Fault bad() {
            return new Fault(placeNow(), 1);
        }

        State field() {
            State s = new State();
            if (peek().isEmpty()) {
                return s;
            }
            part(s);
            while (!peek().isEmpty()) {
                if (!peek().equals(";")) {
                    throw bad();
                }
                next++;
                part(s);
            }
            return s;
        }

        void part(State s) {
            if (peek().equals("mask")) {
                if (s.masks.size() == 8) {
                    throw new Fault(placeNow(), 3);
                }
                next++;
                s.masks.add(form());
            } else if (peek().equals("body")) {
                if (s.bodies.size() == 10) {
                    throw new Fault(placeNow(), 3);
                }
                next++;
                s.bodies.add(thing(s));
            } else {
                throw bad();
            }
        }

        Shape form() {
            String p = peek();
            if (p.equals("box") || p.equals("frame")) {
                next++;
                int w = number(1, 100);
                int h = number(1, 40);
                Shape m = new Shape(w, h);
                for (int y = 0; y < h; y++) {
                    for (int x = 0; x < w; x++) {
                        m.dots[y][x] = p.equals("box") || x == 0 || y == 0 || x == w - 1 || y == h - 1;
                    }
                }
                return m;
            }
            if (p.equals("disk")) {
                next++;
                int r = number(0, 19);
                Shape m = new Shape(2 * r + 1, 2 * r + 1);
                for (int y = -r; y <= r; y++) {
                    for (int x = -r; x <= r; x++) {
                        m.dots[y + r][x + r] = x * x + y * y <= r * r;
                    }
                }
                return m;
            }
            List<String> rows = new ArrayList<>();
            while (true) {
                String row = peek();
                if (row.isEmpty() || row.charAt(0) != '#' && row.charAt(0) != '.') {
                    throw bad();
                }
                if (rows.size() == 40) {
                    throw new Fault(placeNow(), 3);
                }
                if (!rows.isEmpty() && row.length() != rows.get(0).length()) {
                    throw new Fault(placeNow(), 4);
                }
                if (row.length() > 100) {
                    throw new Fault(placeNow() + 100, 4);
                }
                rows.add(row);
                next++;
                if (!peek().equals("/")) {
                    break;
                }
                next++;
            }
            Shape m = new Shape(rows.get(0).length(), rows.size());
            for (int y = 0; y < m.h(); y++) {
                for (int x = 0; x < m.w(); x++) {
                    m.dots[y][x] = rows.get(y).charAt(x) == '#';
                }
            }
            return m;
        }

        Thing thing(State s) {
            Thing t = new Thing();
            t.mask = number(0, s.masks.size() - 1);
            t.x = signed(999);
            t.y = signed(999);
            if (peek().equals("flip")) {
                next++;
                t.flip = number(0, 3);
            }
            if (peek().equals("layer")) {
                next++;
                t.own = number(0, 15);
                t.sees = number(0, 15);
            }
            if (peek().equals("moves")) {
                next++;
                t.vx = signed(20);
                t.vy = signed(20);
            }
            return t;
        }

        int signed(int most) {
            if (peek().equals("-")) {
                next++;
                return -number(0, most);
            }
            return number(0, most);
        }

        int number(int least, int most) {
            if (!peek().matches("[0-9]+")) {
                throw bad();
            }
            java.math.BigInteger n = new java.math.BigInteger(peek());
            if (n.bitLength() > 20 || n.intValue() < least || n.intValue() > most) {
                throw new Fault(placeNow(), 2);
            }
            next++;
            return n.intValue();
        }
    }

    // ---- small helpers

    private boolean isM(int m) {
        return m >= 0 && m < s.masks.size();
    }

    private boolean isB(int b) {
        return b >= 0 && b < s.bodies.size();
    }

    private boolean two(int a, int b) {
        return isB(a) && isB(b) && a != b;
    }

    private static boolean in(int n, int from, int to) {
        return n >= from && n <= to;
    }

    private State before;

    private void begin() {
        before = s.copy();
    }

    private void commit() {
        undo.addLast(before);
        if (undo.size() > 10) {
            undo.removeFirst();
        }
    }

    private boolean has(int body, int x, int y) {
        Thing t = s.bodies.get(body);
        Shape m = s.masks.get(t.mask);
        long lx = (long) x - t.x;
        long ly = (long) y - t.y;
        if (lx < 0 || ly < 0 || lx >= m.w() || ly >= m.h()) {
            return false;
        }
        int mx = t.flip % 2 == 1 ? m.w() - 1 - (int) lx : (int) lx;
        int my = t.flip >= 2 ? m.h() - 1 - (int) ly : (int) ly;
        return m.has(mx, my);
    }

    private List<int[]> points(int body) {
        Thing t = s.bodies.get(body);
        List<int[]> all = s.masks.get(t.mask).flipped(t.flip).points();
        for (int[] p : all) {
            p[0] += t.x;
            p[1] += t.y;
        }
        return all;
    }

    private int shared(int a, int b, int dx, int dy) {
        int n = 0;
        for (int[] p : points(a)) {
            if (has(b, p[0] + dx, p[1] + dy)) {
                n++;
            }
        }
        return n;
    }

    private boolean may(int a, int b) {
        Thing p = s.bodies.get(a);
        Thing q = s.bodies.get(b);
        return (p.own & q.sees) != 0 || (q.own & p.sees) != 0;
    }

    private boolean touch(int a, int b, int dx, int dy) {
        if (!may(a, b)) {
            return false;
        }
        Thing p = s.bodies.get(a);
        Thing q = s.bodies.get(b);
        if (Math.abs(p.x + dx - q.x) > 100 || Math.abs(p.y + dy - q.y) > 40) {
            return false;
        }
        return shared(a, b, dx, dy) > 0;
    }

    private static int[][] way(int dx, int dy) {
        int n = Math.max(Math.abs(dx), Math.abs(dy));
        int[][] w = new int[n + 1][2];
        for (int k = 1; k <= n; k++) {
            w[k][0] = (int) Math.floor((2.0 * k * dx + n) / (2.0 * n));
            w[k][1] = (int) Math.floor((2.0 * k * dy + n) / (2.0 * n));
        }
        return w;
    }

    /** {steps, stopper or -2}; moves the body if it is told to. */
    private int[] glide(int body, int dx, int dy, boolean go) {
        Thing t = s.bodies.get(body);
        boolean[] ignored = new boolean[s.bodies.size()];
        for (int i = 0; i < ignored.length; i++) {
            ignored[i] = i == body || touch(body, i, 0, 0);
        }
        int[][] w = way(dx, dy);
        int steps = 0;
        int stopper = -2;
        for (int k = 1; k < w.length; k++) {
            for (int i = ignored.length - 1; i >= 0; i--) {
                if (!ignored[i] && touch(body, i, w[k][0], w[k][1])) {
                    stopper = i;
                }
            }
            if (stopper >= 0 || !in(t.x + w[k][0], -999, 999) || !in(t.y + w[k][1], -999, 999)) {
                break;
            }
            steps = k;
        }
        if (go) {
            t.x += w[steps][0];
            t.y += w[steps][1];
        }
        return new int[] {steps, stopper};
    }

    // ---- acts

    public int place(int body, int x, int y) {
        if (!isB(body) || !in(x, -999, 999) || !in(y, -999, 999)) {
            return -1;
        }
        Thing t = s.bodies.get(body);
        if (t.x == x && t.y == y) {
            return -2;
        }
        begin();
        t.x = x;
        t.y = y;
        commit();
        return 1;
    }

    public int flip(int body, int flip) {
        if (!isB(body) || !in(flip, 0, 3)) {
            return -1;
        }
        Thing t = s.bodies.get(body);
        int was = t.flip;
        if (was == flip) {
            return -2;
        }
        begin();
        t.flip = flip;
        commit();
        return was;
    }

    public int layers(int body, int own, int sees) {
        if (!isB(body) || !in(own, 0, 15) || !in(sees, 0, 15)) {
            return -1;
        }
        Thing t = s.bodies.get(body);
        if (t.own == own && t.sees == sees) {
            return -2;
        }
        begin();
        t.own = own;
        t.sees = sees;
        commit();
        return 1;
    }

    public int speed(int body, int vx, int vy) {
        if (!isB(body) || !in(vx, -20, 20) || !in(vy, -20, 20)) {
            return -1;
        }
        Thing t = s.bodies.get(body);
        if (t.vx == vx && t.vy == vy) {
            return -2;
        }
        begin();
        t.vx = vx;
        t.vy = vy;
        commit();
        return 1;
    }

    public int turn(int mask, int x, int y) {
        if (!isM(mask) || !in(x, 0, s.masks.get(mask).w() - 1) || !in(y, 0, s.masks.get(mask).h() - 1)) {
            return -1;
        }
        begin();
        Shape m = s.masks.get(mask);
        m.dots[y][x] = !m.dots[y][x];
        commit();
        return m.dots[y][x] ? 1 : 0;
    }

    private static final int[][] FOUR = {{1, 0}, {-1, 0}, {0, 1}, {0, -1}};

    public int grow(int mask) {
        if (!isM(mask)) {
            return -1;
        }
        begin();
        Shape old = s.masks.get(mask).copy();
        Shape m = s.masks.get(mask);
        for (int[] p : old.points()) {
            for (int[] d : FOUR) {
                int x = p[0] + d[0];
                int y = p[1] + d[1];
                if (in(x, 0, m.w() - 1) && in(y, 0, m.h() - 1)) {
                    m.dots[y][x] = true;
                }
            }
        }
        int come = m.total() - old.total();
        if (come == 0) {
            return -2;
        }
        commit();
        return come;
    }

    public int thin(int mask) {
        if (!isM(mask)) {
            return -1;
        }
        begin();
        Shape old = s.masks.get(mask).copy();
        Shape m = s.masks.get(mask);
        for (int[] p : old.points()) {
            for (int[] d : FOUR) {
                if (!old.has(p[0] + d[0], p[1] + d[1])) {
                    m.dots[p[1]][p[0]] = false;
                }
            }
        }
        int gone = old.total() - m.total();
        if (gone == 0) {
            return -2;
        }
        commit();
        return gone;
    }

    public int join(int mask, int other, int dx, int dy, int how) {
        if (!isM(mask) || !isM(other) || !in(dx, -99, 99) || !in(dy, -99, 99) || !in(how, 0, 3)) {
            return -1;
        }
        begin();
        Shape o = s.masks.get(other).copy();
        Shape m = s.masks.get(mask);
        for (int y = 0; y < m.h(); y++) {
            for (int x = 0; x < m.w(); x++) {
                boolean a = m.dots[y][x];
                boolean b = o.has(x - dx, y - dy);
                m.dots[y][x] = how == 0 ? a || b : how == 1 ? a && b : how == 2 ? a && !b : a != b;
            }
        }
        commit();
        return m.total();
    }

    public int slide(int body, int dx, int dy) {
        if (!isB(body) || !in(dx, -200, 200) || !in(dy, -200, 200)) {
            return -1;
        }
        begin();
        int steps = glide(body, dx, dy, true)[0];
        if (steps == 0) {
            return -2;
        }
        commit();
        return steps;
    }

    public int push(int body, int dx, int dy) {
        if (!isB(body) || !in(dx, -200, 200) || !in(dy, -200, 200)) {
            return -1;
        }
        begin();
        int[][] w = way(dx, dy);
        int steps = 0;
        for (int k = 1; k < w.length; k++) {
            int sx = w[k][0] - w[k - 1][0];
            int sy = w[k][1] - w[k - 1][1];
            boolean[] goes = new boolean[s.bodies.size()];
            goes[body] = true;
            boolean more = true;
            while (more) {
                more = false;
                for (int g = 0; g < goes.length; g++) {
                    for (int i = 0; i < goes.length; i++) {
                        if (goes[g] && !goes[i] && touch(g, i, sx, sy) && !touch(g, i, 0, 0)) {
                            goes[i] = true;
                            more = true;
                        }
                    }
                }
            }
            boolean ok = true;
            for (int i = 0; i < goes.length; i++) {
                Thing t = s.bodies.get(i);
                ok &= !goes[i] || in(t.x + sx, -999, 999) && in(t.y + sy, -999, 999);
            }
            if (!ok) {
                break;
            }
            for (int i = 0; i < goes.length; i++) {
                if (goes[i]) {
                    s.bodies.get(i).x += sx;
                    s.bodies.get(i).y += sy;
                }
            }
            steps++;
        }
        if (steps == 0) {
            return -2;
        }
        commit();
        return steps;
    }

    public int falls() {
        if (s.bodies.isEmpty()) {
            return -1;
        }
        begin();
        int all = 0;
        int round;
        do {
            round = 0;
            for (int i = 0; i < s.bodies.size(); i++) {
                round += glide(i, 0, 200, true)[0];
            }
            all += round;
        } while (round > 0);
        if (all == 0) {
            return -2;
        }
        commit();
        return all;
    }

    public int crop(int mask) {
        if (!isM(mask)) {
            return -1;
        }
        Shape m = s.masks.get(mask);
        if (m.total() == 0) {
            return -2;
        }
        int l = mask(mask, 3);
        int t = mask(mask, 4);
        int r = mask(mask, 5);
        int b = mask(mask, 6);
        if (l == 0 && t == 0 && r == m.w() - 1 && b == m.h() - 1) {
            return -2;
        }
        begin();
        List<List<int[]>> lay = new ArrayList<>();
        for (int i = 0; i < s.bodies.size(); i++) {
            lay.add(points(i));
        }
        Shape c = new Shape(r - l + 1, b - t + 1);
        for (int y = t; y <= b; y++) {
            for (int x = l; x <= r; x++) {
                c.dots[y - t][x - l] = m.dots[y][x];
            }
        }
        s.masks.set(mask, c);
        for (int i = 0; i < s.bodies.size(); i++) {
            Thing q = s.bodies.get(i);
            if (q.mask == mask) {
                // Both lists are by y, then by x: the first dot of each is the same dot.
                int[] was = lay.get(i).get(0);
                int[] is = points(i).get(0);
                q.x += was[0] - is[0];
                q.y += was[1] - is[1];
                if (q.x > 999 || q.y > 999) {
                    s = before;
                    return -3;
                }
            }
        }
        commit();
        return c.w() * c.h();
    }

    public int quarter(int mask) {
        if (!isM(mask)) {
            return -1;
        }
        Shape m = s.masks.get(mask);
        if (m.w() > 40) {
            return -2;
        }
        begin();
        Shape c = new Shape(m.h(), m.w());
        for (int[] p : m.points()) {
            c.dots[p[0]][m.h() - 1 - p[1]] = true;
        }
        s.masks.set(mask, c);
        commit();
        return c.w();
    }

    public int ticks(int n) {
        if (!in(n, 1, 20)) {
            return -1;
        }
        begin();
        int stopped = 0;
        for (int k = 0; k < n; k++) {
            for (int i = 0; i < s.bodies.size(); i++) {
                Thing t = s.bodies.get(i);
                int steps = glide(i, t.vx, t.vy, true)[0];
                if (steps < Math.max(Math.abs(t.vx), Math.abs(t.vy))) {
                    stopped++;
                    t.vx = -t.vx;
                    t.vy = -t.vy;
                }
            }
            s.ticks++;
        }
        commit();
        return stopped;
    }

    public int undo() {
        if (undo.isEmpty()) {
            return -1;
        }
        s = undo.removeLast();
        return undo.size();
    }

    public int keep(int shelf) {
        if (!in(shelf, 0, 1)) {
            return -1;
        }
        shelves[shelf] = s.copy();
        return s.bodies.size();
    }

    public int back(int shelf) {
        if (!in(shelf, 0, 1)) {
            return -1;
        }
        if (shelves[shelf] == null) {
            return -2;
        }
        s = shelves[shelf].copy();
        undo.clear();
        return s.bodies.size();
    }

    // ---- questions about masks

    private static List<List<int[]>> groups(Shape m, boolean dots) {
        List<List<int[]>> all = new ArrayList<>();
        boolean[][] seen = new boolean[m.h()][m.w()];
        for (int y = 0; y < m.h(); y++) {
            for (int x = 0; x < m.w(); x++) {
                if (!seen[y][x] && m.dots[y][x] == dots) {
                    List<int[]> group = new ArrayList<>();
                    ArrayDeque<int[]> todo = new ArrayDeque<>();
                    todo.add(new int[] {x, y});
                    seen[y][x] = true;
                    while (!todo.isEmpty()) {
                        int[] p = todo.removeLast();
                        group.add(p);
                        for (int[] d : FOUR) {
                            int a = p[0] + d[0];
                            int b = p[1] + d[1];
                            if (in(a, 0, m.w() - 1) && in(b, 0, m.h() - 1) && !seen[b][a] && m.dots[b][a] == dots) {
                                seen[b][a] = true;
                                todo.add(new int[] {a, b});
                            }
                        }
                    }
                    all.add(group);
                }
            }
        }
        return all;
    }

    private static int end(List<int[]> points, int axis, boolean greatest) {
        int best = points.get(0)[axis];
        for (int[] p : points) {
            best = greatest ? Math.max(best, p[axis]) : Math.min(best, p[axis]);
        }
        return best;
    }

    public int mask(int mask, int what) {
        if (!isM(mask) || !in(what, 0, 9)) {
            return -1;
        }
        Shape m = s.masks.get(mask);
        List<int[]> points = m.points();
        if (what == 0 || what == 1) {
            return what == 0 ? m.w() : m.h();
        }
        if (what == 2) {
            return points.size();
        }
        if (what <= 6) {
            return points.isEmpty() ? -2 : end(points, (what - 3) % 2, what >= 5);
        }
        if (what == 7) {
            return groups(m, true).size();
        }
        if (what == 8) {
            int n = 0;
            for (List<int[]> g : groups(m, false)) {
                boolean out = false;
                for (int[] p : g) {
                    out |= p[0] == 0 || p[1] == 0 || p[0] == m.w() - 1 || p[1] == m.h() - 1;
                }
                n += out ? 0 : 1;
            }
            return n;
        }
        int edge = 0;
        for (int[] p : points) {
            for (int[] d : FOUR) {
                edge += m.has(p[0] + d[0], p[1] + d[1]) ? 0 : 1;
            }
        }
        return edge;
    }

    public int dot(int mask, int x, int y) {
        return !isM(mask) ? -1 : s.masks.get(mask).has(x, y) ? 1 : 0;
    }

    public long row(int mask, int y, int word) {
        if (!isM(mask) || !in(word, 0, 1)) {
            return 0;
        }
        long bits = 0;
        for (int i = 0; i < 64; i++) {
            if (s.masks.get(mask).has(64 * word + i, y)) {
                bits += 1L << i;
            }
        }
        return bits;
    }

    public int island(int mask, int k, int what) {
        if (!isM(mask) || !in(what, 0, 4)) {
            return -1;
        }
        List<List<int[]>> all = groups(s.masks.get(mask), true);
        if (k == -1 && what == 0) {
            return all.size();
        }
        if (k < 0 || k >= all.size()) {
            return -1;
        }
        List<int[]> g = all.get(k);
        return what == 0 ? g.size() : end(g, (what - 1) % 2, what >= 3);
    }

    public int shifts(int mask, int other) {
        if (!isM(mask) || !isM(other)) {
            return -1;
        }
        boolean[][] is = new boolean[400][400];
        int n = 0;
        for (int[] p : s.masks.get(mask).points()) {
            for (int[] q : s.masks.get(other).points()) {
                if (!is[200 + q[1] - p[1]][200 + q[0] - p[0]]) {
                    is[200 + q[1] - p[1]][200 + q[0] - p[0]] = true;
                    n++;
                }
            }
        }
        return n;
    }

    public int like(int mask) {
        if (!isM(mask)) {
            return -1;
        }
        int bits = 0;
        for (int f = 0; f < 4; f++) {
            bits += alike(mask, mask, f) << f;
        }
        return bits;
    }

    public int letter(int mask, int k) {
        if (!isM(mask) || k < -1) {
            return -1;
        }
        StringBuilder text = new StringBuilder();
        Shape m = s.masks.get(mask);
        for (int y = 0; y < m.h(); y++) {
            text.append(y == 0 ? "" : "/");
            for (int x = 0; x < m.w(); x++) {
                text.append(m.dots[y][x] ? '#' : '.');
            }
        }
        return k == -1 ? text.length() : k >= text.length() ? -2 : text.charAt(k);
    }

    public int dense(int mask, int w, int h, int what) {
        if (!isM(mask) || !in(what, 0, 2)) {
            return -1;
        }
        Shape m = s.masks.get(mask);
        if (!in(w, 1, m.w()) || !in(h, 1, m.h())) {
            return -1;
        }
        int[] best = {-1, 0, 0};
        for (int y = 0; y + h <= m.h(); y++) {
            for (int x = 0; x + w <= m.w(); x++) {
                int n = 0;
                for (int b = 0; b < h; b++) {
                    for (int a = 0; a < w; a++) {
                        n += m.dots[y + b][x + a] ? 1 : 0;
                    }
                }
                if (n > best[0]) {
                    best = new int[] {n, x, y};
                }
            }
        }
        return best[what];
    }

    public int dots(int mask, boolean down, int k) {
        if (!isM(mask) || !in(k, 0, (down ? s.masks.get(mask).w() : s.masks.get(mask).h()) - 1)) {
            return -1;
        }
        int n = 0;
        for (int[] p : s.masks.get(mask).points()) {
            n += p[down ? 0 : 1] == k ? 1 : 0;
        }
        return n;
    }

    public int spread(int mask, int what) {
        if (!isM(mask) || !in(what, 0, 2)) {
            return -1;
        }
        List<int[]> points = s.masks.get(mask).points();
        int n = 0;
        if (what < 2) {
            for (int[] p : points) {
                n += p[what];
            }
            return n;
        }
        for (int[] p : points) {
            for (int[] q : points) {
                n = Math.max(n, Math.abs(p[0] - q[0]) + Math.abs(p[1] - q[1]));
            }
        }
        return n;
    }

    public long share(int mask) {
        if (!isM(mask)) {
            return -1;
        }
        Shape m = s.masks.get(mask);
        return Double.doubleToLongBits((double) m.total() / (m.w() * m.h()));
    }

    public int alike(int mask, int other, int flip) {
        if (!isM(mask) || !isM(other) || !in(flip, 0, 3)) {
            return -1;
        }
        return s.masks.get(mask).same(s.masks.get(other).flipped(flip)) ? 1 : 0;
    }

    // ---- questions about bodies

    public int body(int body, int what) {
        if (!isB(body) || !in(what, 0, 7)) {
            return -2000;
        }
        Thing t = s.bodies.get(body);
        return new int[] {t.mask, t.x, t.y, t.flip, t.own, t.sees, t.vx, t.vy}[what];
    }

    public int common(int body, int other) {
        return two(body, other) ? shared(body, other, 0, 0) : -1;
    }

    public int meet(int body, int other, int what) {
        if (!two(body, other) || !in(what, 0, 1)) {
            return -2000;
        }
        for (int[] p : points(body)) {
            if (has(other, p[0], p[1])) {
                return p[what];
            }
        }
        return -2000;
    }

    private List<Integer> contacts() {
        List<Integer> all = new ArrayList<>();
        for (int i = 0; i < s.bodies.size(); i++) {
            for (int j = i + 1; j < s.bodies.size(); j++) {
                if (touch(i, j, 0, 0)) {
                    all.add(100 * i + j);
                }
            }
        }
        return all;
    }

    public int contact(int k) {
        List<Integer> all = contacts();
        return k < -1 ? -1 : k == -1 ? all.size() : k < all.size() ? all.get(k) : -2;
    }

    /** Least x, least y, greatest x, greatest y; null without dots. */
    private int[] box(int body) {
        List<int[]> p = points(body);
        if (p.isEmpty()) {
            return null;
        }
        return new int[] {end(p, 0, false), end(p, 1, false), end(p, 0, true), end(p, 1, true)};
    }

    public int sieve(int what) {
        if (!in(what, 0, 2)) {
            return -1;
        }
        int n = 0;
        for (int i = 0; i < s.bodies.size(); i++) {
            for (int j = i + 1; j < s.bodies.size(); j++) {
                int[] a = box(i);
                int[] b = box(j);
                boolean boxes = a != null && b != null && Math.max(a[0], b[0]) <= Math.min(a[2], b[2])
                    && Math.max(a[1], b[1]) <= Math.min(a[3], b[3]);
                n += may(i, j) && (what == 0 || what == 1 && boxes || what == 2 && touch(i, j, 0, 0)) ? 1 : 0;
            }
        }
        return n;
    }

    public int touching(int body) {
        if (!isB(body)) {
            return -1;
        }
        int bits = 0;
        for (int i = 0; i < s.bodies.size(); i++) {
            bits += i != body && touch(body, i, 0, 0) ? 1 << i : 0;
        }
        return bits;
    }

    public int at(int x, int y) {
        int bits = 0;
        for (int i = 0; i < s.bodies.size(); i++) {
            bits += has(i, x, y) ? 1 << i : 0;
        }
        return bits;
    }

    public int first(int body, int other, int n) {
        if (!two(body, other) || !in(n, 0, 300)) {
            return -1;
        }
        Thing a = s.bodies.get(body);
        Thing b = s.bodies.get(other);
        for (int k = 0; k <= n; k++) {
            if (touch(body, other, k * (a.vx - b.vx), k * (a.vy - b.vy))) {
                return k;
            }
        }
        return -2;
    }

    public int reach(int body, int dx, int dy, int what) {
        if (!isB(body) || !in(dx, -200, 200) || !in(dy, -200, 200) || !in(what, 0, 1)) {
            return -1;
        }
        return glide(body, dx, dy, false)[what];
    }

    public int gap(int body, int other, int way) {
        if (!two(body, other) || !in(way, 0, 3)) {
            return -1;
        }
        for (int k = 0; k <= 500; k++) {
            if (touch(body, other, k * FOUR[way][0], k * FOUR[way][1])) {
                return k;
            }
        }
        return -2;
    }

    public int apart(int body, int other, int what) {
        if (!two(body, other) || !in(what, 0, 2)) {
            return -2000;
        }
        for (int far = 0;; far++) {
            for (int dy = -far; dy <= far; dy++) {
                for (int dx = -far; dx <= far; dx++) {
                    if (Math.abs(dx) + Math.abs(dy) == far && shared(body, other, dx, dy) == 0) {
                        return new int[] {far, dx, dy}[what];
                    }
                }
            }
        }
    }

    public int best(int body, int other, int what) {
        if (!two(body, other) || !in(what, 0, 2)) {
            return -2000;
        }
        Thing t = s.bodies.get(body);
        Thing o = s.bodies.get(other);
        int[][] common = new int[400][400]; // by how much the body would have to move, off the least
        for (int[] p : points(body)) {
            for (int[] q : points(other)) {
                common[200 + q[1] - p[1] - (o.y - t.y)][200 + q[0] - p[0] - (o.x - t.x)]++;
            }
        }
        int[] best = {0, t.x, t.y};
        for (int y = 0; y < 400; y++) {
            for (int x = 0; x < 400; x++) {
                if (common[y][x] > best[0]) {
                    best = new int[] {common[y][x], o.x + x - 200, o.y + y - 200};
                }
            }
        }
        return best[what];
    }

    public int slope(int body, int other, int what) {
        if (!two(body, other) || !in(what, 0, 1)) {
            return -2000000;
        }
        return what == 0 ? shared(body, other, 1, 0) - shared(body, other, -1, 0)
            : shared(body, other, 0, 1) - shared(body, other, 0, -1);
    }

    public int ray(int x, int y, int dx, int dy) {
        if (!in(x, -9999, 9999) || !in(y, -9999, 9999) || !in(dx, -300, 300) || !in(dy, -300, 300)) {
            return -1;
        }
        int[][] w = way(dx, dy);
        for (int k = 0; k < w.length; k++) {
            int bits = at(x + w[k][0], y + w[k][1]);
            if (bits != 0) {
                return 100 * k + Integer.numberOfTrailingZeros(bits);
            }
        }
        return -2;
    }

    public int seen(int body, int other) {
        if (!two(body, other) || box(body) == null || box(other) == null) {
            return -1;
        }
        int[] a = box(body);
        int[] b = box(other);
        int x = (int) Math.floor((a[0] + a[2]) / 2.0);
        int y = (int) Math.floor((a[1] + a[3]) / 2.0);
        int[][] w = way((int) Math.floor((b[0] + b[2]) / 2.0) - x, (int) Math.floor((b[1] + b[3]) / 2.0) - y);
        int n = 0;
        for (int[] p : w) {
            n += (at(x + p[0], y + p[1]) & ~(1 << body) & ~(1 << other)) != 0 ? 1 : 0;
        }
        return n;
    }

    // ---- numbers of all

    public long digest() {
        long n = 17;
        for (int i = 0; i < s.bodies.size(); i++) {
            for (int what = 0; what < 8; what++) {
                n = n * 31 + body(i, what);
            }
        }
        for (int i = 0; i < s.masks.size(); i++) {
            for (int y = 0; y < s.masks.get(i).h(); y++) {
                n = n * 31 + row(i, y, 0);
                n = n * 31 + row(i, y, 1);
            }
        }
        return n;
    }

    public int count(int what) {
        int dots = 0;
        for (Shape m : s.masks) {
            dots += m.total();
        }
        int kept = (shelves[0] == null ? 0 : 1) + (shelves[1] == null ? 0 : 2);
        int[] all = {s.masks.size(), s.bodies.size(), dots, undo.size(), tape.size(), kept, s.ticks};
        return in(what, 0, 6) ? all[what] : -1;
    }
}
