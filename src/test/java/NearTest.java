/** Two or three small bodies in every place near one another, along every short way, against PlainModel. */
public final class NearTest {
    private static final Due due = new Due();
    private static final int NEAR = 4;

    /** Masks that have dots off their corners, holes, and none at their sides. */
    private static final String[] MASKS = {
        "mask #;mask #", "mask ##/#.;mask .#./###", "mask ..../.#../.##.;mask #.#/.../#.#", "mask .#/..;mask ..#/.../#..",
    };

    public static void main(String[] args) {
        for (int form = 0; form < MASKS.length; form++) {
            for (int y = -NEAR; y <= NEAR; y++) {
                for (int x = -NEAR; x <= NEAR; x++) {
                    int flip = (x + 3 * y + 40 + form) % 4;
                    String field = MASKS[form] + ";body 0 0 0;body 1 " + x + " " + y + " flip " + flip;
                    slides(field);
                    pushes(field);
                    questions(field);
                }
            }
        }
        ends();
        due.close();
    }

    private static void slides(String field) {
        Pair two = new Pair(due, field);
        for (int dy = -NEAR; dy <= NEAR; dy++) {
            for (int dx = -NEAR; dx <= NEAR; dx++) {
                two.ask("reach", 0, dx, dy, 0);
                two.ask("reach", 0, dx, dy, 1);
                two.ask("reach", 1, dx, dy, 0);
            }
        }
        Pair act = new Pair(due, field);
        for (int dy = -NEAR; dy <= NEAR; dy++) {
            for (int dx = -NEAR; dx <= NEAR; dx++) {
                act.tryAct("slide", 0, dx, dy);
            }
        }
    }

    /** A third body lies beside: who goes takes it along, or not. */
    private static void pushes(String field) {
        Pair three = new Pair(due, field + ";body 0 2 1 flip 3");
        for (int dy = -NEAR; dy <= NEAR; dy++) {
            for (int dx = -NEAR; dx <= NEAR; dx++) {
                three.tryAct("push", (dx + dy + 30) % 3, dx, dy);
            }
        }
    }

    private static void questions(String field) {
        Pair p = new Pair(due, field + " moves -1 1;body 0 1 2 layer 2 3 moves 1 0;body 1 -2 0 layer 4 1");
        for (int body = 0; body < 4; body++) {
            p.ask("touching", body);
            for (int other = 0; other < 4; other++) {
                p.ask("common", body, other);
                p.ask("first", body, other, 20);
                p.ask("seen", body, other);
                for (int way = 0; way < 4; way++) {
                    p.ask("gap", body, other, way);
                }
                for (int what = 0; what < 3; what++) {
                    p.ask("apart", body, other, what);
                    p.ask("best", body, other, what);
                    p.ask("meet", body, other, what);
                    p.ask("slope", body, other, what);
                }
            }
        }
        for (int what = 0; what < 3; what++) {
            p.ask("sieve", what);
        }
        for (int k = -1; k < 7; k++) {
            p.ask("contact", k);
        }
        Pair act = new Pair(due, field + " moves -1 1;body 0 1 2 layer 2 3 moves 3 -2;body 1 -2 0 layer 4 1 moves 0 1");
        for (int n : new int[] {1, 2, 7, 20}) {
            act.tryAct("ticks", n);
        }
        act.tryAct("falls");
        act.ask("ray", -6, 1, 12, 0);
        act.ask("ray", 0, 6, 1, -12);
        act.ask("ray", -5, -5, 10, 9);
    }

    /** Near the corners of what may be told, where ways end. */
    private static void ends() {
        for (int side = 0; side < 4; side++) {
            int sx = side % 2 == 0 ? 1 : -1;
            int sy = side / 2 == 0 ? 1 : -1;
            for (int left = 0; left <= 2; left++) {
                String field = "mask ##/#.;body 0 " + sx * (999 - left) + " " + sy * 998 + " moves " + sx * 2 + " " + sy
                    + ";body 0 " + sx * 996 + " " + sy * 999 + " flip 3 moves " + sx * 3 + " 0";
                Pair p = new Pair(due, field);
                for (int dy = -NEAR; dy <= NEAR; dy++) {
                    for (int dx = -NEAR; dx <= NEAR; dx++) {
                        p.ask("reach", 0, dx, dy, 0);
                        p.tryAct("push", 1, dx, dy);
                    }
                }
                Pair ticks = new Pair(due, field);
                for (int n = 1; n <= 20; n++) {
                    ticks.tryAct("ticks", n);
                }
                ticks.tryAct("falls");
            }
        }
    }
}
