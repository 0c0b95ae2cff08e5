import java.lang.management.ManagementFactory;

/**
 * All calls of one run share one room (some 600,000 objects, 7.3 million fields and elements, nothing given back).
 * Every element takes a byte or more, and every object 16 or more, so bytes that were asked for bound both.
 */
final class RoomTest {
    private static final long MOST_BYTES = 2_000_000;
    private static final com.sun.management.ThreadMXBean THREADS =
            (com.sun.management.ThreadMXBean) ManagementFactory.getThreadMXBean();

    private interface Run {
        void go(Patchwright x);
    }

    public static void main(String[] args) {
        room("inserting", RoomTest::inserting);
        room("asking about a long graph", RoomTest::asking);
        room("merging and giving up", RoomTest::merging);
        room("putting onto in vain", RoomTest::puttingOnto);
        room("growing texts", RoomTest::growing);
        Bench.close("RoomTest");
    }

    private static void room(String name, Run run) {
        run.go(new Patchwright());
        long before = THREADS.getCurrentThreadAllocatedBytes();
        run.go(new Patchwright());
        long taken = THREADS.getCurrentThreadAllocatedBytes() - before;
        Bench.due("room for " + name + ": " + taken + " bytes", taken < MOST_BYTES, true);
        System.out.println("  " + name + " takes " + taken + " bytes");
    }

    private static void inserting(Patchwright x) {
        x.make(0);
        for (int i = 0; i < 511; i++) {
            if (i % 80 < 40) {
                x.insert(0, 0, i % 100);
            } else {
                x.cut(0, (i * 7) % x.lines(0));
            }
        }
    }

    /** 51 commits, a file of 35 lines edited at both ends, and 250 calls that follow every line. */
    private static void asking(Patchwright x) {
        x.make(0);
        for (int i = 0; i < 35; i++) {
            x.insert(0, i, i % 9);
        }
        x.stage(0);
        x.commit(0);
        for (int c = 1; c < 51; c++) {
            x.cut(0, (c * 13) % 30);
            x.insert(0, (c * 7) % 34, c % 10);
            x.stage(0);
            x.commit(c);
        }
        for (int i = 0; i < 125; i++) {
            x.isSound();
            x.share(i % 50);
            x.texts();
        }
    }

    private static void fill(Patchwright x, int from) {
        for (int f = 0; f < 3; f++) {
            for (int i = 0; i < 12; i++) {
                x.insert(f, i, (from + i * i) % 50);
            }
            x.stage(f);
        }
    }

    private static void forked(Patchwright x) {
        for (int f = 0; f < 3; f++) {
            x.make(f);
        }
        fill(x, 0);
        x.commit(0);
        x.branch(1);
        fill(x, 3);
        x.commit(1);
        x.switchTo(1);
        fill(x, 7);
        x.commit(2);
    }

    private static void merging(Patchwright x) {
        forked(x);
        for (int i = 0; i < 180; i++) {
            x.merge(0, i);
            x.giveUp();
        }
    }

    /** 20 picks that go well, and one that does not, again and again. */
    private static void puttingOnto(Patchwright x) {
        x.make(0);
        for (int i = 0; i < 20; i++) {
            x.insert(0, i, i);
        }
        x.stage(0);
        x.commit(0);
        x.branch(1);
        for (int c = 1; c < 20; c++) {
            x.insert(0, 0, c);
            x.stage(0);
            x.commit(c);
        }
        x.insert(0, 39, 70);
        x.stage(0);
        x.commit(20);
        x.switchTo(1);
        x.insert(0, 20, 71);
        x.stage(0);
        x.commit(21);
        x.switchTo(0);
        for (int i = 0; i < 400; i++) {
            x.putOnto(1);
        }
    }

    /** A text that is put behind itself, less a line, again and again. */
    private static void growing(Patchwright x) {
        x.make(0);
        for (int i = 0; i < 40; i++) {
            x.insert(0, i, i);
        }
        x.stage(0);
        x.commit(0);
        for (int round = 0; round < 5; round++) {
            // the head's file twice, once as 1 and once as 0; then both are moved to 2, each on one branch
            x.rename(0, 1);
            x.restore(0);
            x.cut(0, 0);
            x.stage(0);
            x.stage(1);
            x.commit(1);
            x.branch(1);
            x.rename(0, 2);
            x.stage(0);
            x.stage(2);
            x.commit(2);
            x.switchTo(1);
            x.rename(1, 2);
            x.stage(1);
            x.stage(2);
            x.commit(3);
            x.merge(0, 4);
            x.settle(2, 'b');
            x.rename(2, 0);
            x.stage(2);
            x.stage(0);
            x.commit(5);
            x.unbranch(0);
            x.branch(0);
            x.switchTo(0);
            x.unbranch(1);
        }
        Bench.due("a text of " + x.lines(0) + " lines", x.lines(0) > 1000, true);
        Bench.due("sound all the same", x.isSound(), true);
    }
}
