import java.lang.management.ManagementFactory;

/** A run of calls keeps within its room: what is made once is used again, whatever the calls. */
public final class RoomTest {
    private static final long MOST_BYTES = 400000;

    public static void main(String[] args) {
        run(1);
        long before = allocated();
        run(512);
        long made = allocated() - before;
        System.out.println("a run of 512 rounds of all calls made " + made + " bytes");
        if (made > MOST_BYTES) {
            System.out.println("that is more than " + MOST_BYTES);
            System.exit(1);
        }
    }

    private static long allocated() {
        com.sun.management.ThreadMXBean threads = (com.sun.management.ThreadMXBean) ManagementFactory.getThreadMXBean();
        return threads.getThreadAllocatedBytes(Thread.currentThread().getId());
    }

    /** One object, and every call of the face in each round. */
    private static void run(int rounds) {
        MaskTouch x = new MaskTouch();
        for (int i = 0; i < rounds; i++) {
            // mask box 20 9;mask #.#;body 0 0 0;body 1 9 9;
            x.feed(0x6D61736B, 0x20626F78, 0x20323020, 0x393B6D61, 0x736B2023);
            x.feed(0x2E233B62, 0x6F647920, 0x30203020, 0x303B626F, 0x64792031);
            x.feed(0x20392039, 0, 0, 0, 0);
            x.end(44);
            if (x.tell() != 2) {
                throw new IllegalStateException("the test's own text is no field");
            }
            acts(x, i);
            questionsOfMasks(x);
            questionsOfBodies(x);
            x.keep(0);
            x.keep(1);
            x.back(i % 2);
            x.undo();
        }
    }

    private static void acts(MaskTouch x, int i) {
        x.place(0, i, 5);
        x.flip(0, 3);
        x.layers(0, 3, 3);
        x.speed(0, 7, 7);
        x.turn(0, 3, 3);
        x.grow(0);
        x.thin(0);
        x.join(0, 1, 3, 3, 3);
        x.slide(0, 9, 9);
        x.push(0, 90, 90);
        x.falls();
        x.crop(1);
        x.quarter(0);
        x.ticks(2);
        x.undo();
    }

    private static void questionsOfMasks(MaskTouch x) {
        for (int what = 0; what < 10; what++) {
            x.mask(0, what);
        }
        x.dot(0, 1, 1);
        x.row(0, 1, 0);
        x.island(0, 0, 0);
        x.shifts(0, 1);
        x.like(0);
        x.letter(0, 5);
        x.dense(0, 3, 3, 0);
        x.dots(0, true, 0);
        x.spread(0, 2);
        x.share(0);
        x.digest();
        x.alike(0, 1, 1);
        x.count(2);
    }

    private static void questionsOfBodies(MaskTouch x) {
        x.body(0, 1);
        x.common(0, 1);
        x.meet(0, 1, 0);
        x.contact(0);
        x.sieve(1);
        x.touching(0);
        x.at(3, 3);
        x.first(0, 1, 300);
        x.reach(0, 9, 9, 0);
        x.gap(0, 1, 0);
        x.apart(0, 1, 0);
        x.best(0, 1, 0);
        x.slope(0, 1, 0);
        x.ray(0, 0, 99, 99);
        x.seen(0, 1);
    }
}
