import java.lang.management.ManagementFactory;

/**
 * All calls of one run share one room (some 600,000 objects, 7.3 million fields and elements, nothing given back).
 * Every element takes a byte or more, and every object 16 or more, so bytes that were asked for bound both. With very
 * long texts, nearly all is rows of longs and of references, where an element takes four bytes or more.
 */
final class RoomTest {
    private static final long MOST_BYTES = 7_000_000;
    private static final long MOST_BYTES_OF_ROWS = 4 * MOST_BYTES;
    private static final com.sun.management.ThreadMXBean THREADS =
            (com.sun.management.ThreadMXBean) ManagementFactory.getThreadMXBean();

    private interface Run {
        void go(Patchwright x);
    }

    public static void main(String[] args) {
        room("inserting", RoomTest::inserting);
        room("asking about a long graph", RoomTest::asking);
        room("merging and giving up", RoomTest::merging);
        room("putting onto in vain", RoomTest::puttingOnto);
        room("growing texts", RoomTest::growing);
        room("texts of half a million lines", RoomTest::doubling);
        room("long texts that differ everywhere", RoomTest::differing);
        longRoom("texts beyond all numbers", RoomTest::picking);
        longRoom("long texts that differ in an ever new way", RoomTest::everNew);
        longRoom("many ways to the same lines", RoomTest::manyWays);
        Bench.close("RoomTest");
    }

    private static void room(String name, Run run) {
        room(name, run, MOST_BYTES);
    }

    private static void longRoom(String name, Run run) {
        room(name, run, MOST_BYTES_OF_ROWS);
    }

    private static void room(String name, Run run, long most) {
        run.go(new Patchwright());
        long before = THREADS.getCurrentThreadAllocatedBytes();
        run.go(new Patchwright());
        long taken = THREADS.getCurrentThreadAllocatedBytes() - before;
        Bench.due("room for " + name + ": " + taken + " bytes", taken < most, true);
        System.out.println("  " + name + " takes " + taken + " bytes");
    }

    private static void inserting(Patchwright x) {
        x.make(0);
        for (int i = 0; i < 511; i++) {
            if (i % 80 < 40) {
                x.insert(0, 0, i % 100);
            } else {
                x.cut(0, (i * 7) % x.lines(0));
            }
        }
    }

    /** 51 commits, a file of 35 lines edited at both ends, and 250 calls that follow every line. */
    private static void asking(Patchwright x) {
        x.make(0);
        for (int i = 0; i < 35; i++) {
            x.insert(0, i, i % 9);
        }
        x.stage(0);
        x.commit(0);
        for (int c = 1; c < 51; c++) {
            x.cut(0, (c * 13) % 30);
            x.insert(0, (c * 7) % 34, c % 10);
            x.stage(0);
            x.commit(c);
        }
        for (int i = 0; i < 125; i++) {
            x.isSound();
            x.share(i % 50);
            x.texts();
        }
    }

    private static void fill(Patchwright x, int from) {
        for (int f = 0; f < 3; f++) {
            for (int i = 0; i < 12; i++) {
                x.insert(f, i, (from + i * i) % 50);
            }
            x.stage(f);
        }
    }

    private static void forked(Patchwright x) {
        for (int f = 0; f < 3; f++) {
            x.make(f);
        }
        fill(x, 0);
        x.commit(0);
        x.branch(1);
        fill(x, 3);
        x.commit(1);
        x.switchTo(1);
        fill(x, 7);
        x.commit(2);
    }

    private static void merging(Patchwright x) {
        forked(x);
        for (int i = 0; i < 180; i++) {
            x.merge(0, i);
            x.giveUp();
        }
    }

    /** 20 picks that go well, and one that does not, again and again. */
    private static void puttingOnto(Patchwright x) {
        x.make(0);
        for (int i = 0; i < 20; i++) {
            x.insert(0, i, i);
        }
        x.stage(0);
        x.commit(0);
        x.branch(1);
        for (int c = 1; c < 20; c++) {
            x.insert(0, 0, c);
            x.stage(0);
            x.commit(c);
        }
        x.insert(0, 39, 70);
        x.stage(0);
        x.commit(20);
        x.switchTo(1);
        x.insert(0, 20, 71);
        x.stage(0);
        x.commit(21);
        x.switchTo(0);
        for (int i = 0; i < 400; i++) {
            x.putOnto(1);
        }
    }

    /** A text that is put behind itself, less a line, again and again. */
    private static void growing(Patchwright x) {
        x.make(0);
        for (int i = 0; i < 40; i++) {
            x.insert(0, i, i);
        }
        x.stage(0);
        x.commit(0);
        for (int round = 0; round < 5; round++) {
            // the head's file twice, once as 1 and once as 0; then both are moved to 2, each on one branch
            x.rename(0, 1);
            x.restore(0);
            x.cut(0, 0);
            x.stage(0);
            x.stage(1);
            x.commit(1);
            x.branch(1);
            x.rename(0, 2);
            x.stage(0);
            x.stage(2);
            x.commit(2);
            x.switchTo(1);
            x.rename(1, 2);
            x.stage(1);
            x.stage(2);
            x.commit(3);
            x.merge(0, 4);
            x.settle(2, 'b');
            x.rename(2, 0);
            x.stage(2);
            x.stage(0);
            x.commit(5);
            x.unbranch(0);
            x.branch(0);
            x.switchTo(0);
            x.unbranch(1);
        }
        Bench.due("a text of " + x.lines(0) + " lines", x.lines(0) > 1000, true);
        Bench.due("sound all the same", x.isSound(), true);
    }

    private static void cutAndSave(Patchwright x, int place) {
        x.cut(0, place);
        x.stage(0);
        x.commit(2);
    }

    private static void grow(Patchwright x, int rounds) {
        x.make(0);
        for (int i = 0; i < 40; i++) {
            x.insert(0, i, i * i % 41);
        }
        x.stage(0);
        x.commit(1);
        for (int k = 0; k < rounds; k++) {
            cutAndSave(x, k);
            x.pick(4 * k);
            x.settle(0, 'b');
            x.stage(0);
            x.commit(3);
            x.drop(0);
            x.stage(0);
            x.commit(4);
            x.takeBack(4 * k + 3, 5);
        }
    }

    private static void doubling(Patchwright x) {
        grow(x, 14);
        for (int i = 0; i < 50; i++) {
            x.isSound();
            x.share(i);
            x.blame(0, 1000 * i);
        }
        Bench.due("long enough", x.lines(0) > 600000, true);
    }

    /** A moving of file 1 to file 2 is picked onto a head that has both, again and again. */
    private static void picking(Patchwright x) {
        Bench.save(x, 0, 1, 90);
        x.rename(1, 2);
        Bench.saveAll(x, 1);
        x.reset(0);
        Bench.write(x, 1, Bench.count(1, 30));
        Bench.write(x, 2, Bench.count(0, 40));
        Bench.saveAll(x, 2);
        for (int k = 0; k < 36; k++) {
            x.pick(1);
            x.settle(2, 'b');
            x.stage(2);
            x.rename(2, 1);
            x.restore(2);
            x.cut(1, 0);
            x.stage(1);
            x.commit(3);
            x.isSound();
            x.blame(2, 5);
        }
        Bench.due("beyond all numbers", x.lines(2), Integer.MAX_VALUE);
    }

    /** A moving of file 1 to file 2, for picks, and texts of file 2 that were doubled so often from some lines each. */
    private static int[] grown(Patchwright x, int times, int... lines) {
        Bench.save(x, 0, 1, 90);
        x.rename(1, 2);
        Bench.saveAll(x, 1);
        x.reset(0);
        x.drop(1);
        int[] heads = new int[2];
        for (int which = 0; which < 2; which++) {
            x.make(2);
            for (int i = 0; i < 20; i++) {
                x.insert(2, i, lines[which] >> i & 1);
            }
            for (int k = 0; k < times; k++) {
                x.stage(2);
                x.rename(2, 1);
                x.restore(2);
                x.cut(1, 0);
                x.stage(1);
                x.commit(3);
                x.pick(1);
                x.settle(2, 'b');
            }
            heads[which] = Bench.saveAll(x, 3);
            x.drop(2);
        }
        return heads;
    }

    private static void everNew(Patchwright x) {
        int[] heads = grown(x, 13, 0x3A5C7, 0x96D31);
        int one = x.matched(heads[0], heads[1], 2);
        Bench.due("as many the other way round", x.matched(heads[1], heads[0], 2), one);
        Bench.due("long", x.linesOf(heads[0], 2), 155649);
    }

    /** The head goes to the commit from which it was made by 2 to the 9 ways. */
    private static void manyWays(Patchwright x) {
        x.reset(grown(x, 8, 0x3A5C7, 0x96D31)[0]);
        for (int level = 0; level < 9; level++) {
            int file = 2 + level % 2;
            int to = 3 - level % 2;
            x.branch(1);
            x.switchTo(1);
            x.rename(file, to);
            Bench.saveAll(x, 2);
            Bench.write(x, file, 50);
            Bench.saveAll(x, 2);
            x.switchTo(0);
            x.rename(file, to);
            x.cut(to, 0);
            Bench.saveAll(x, 2);
            x.merge(1, 3);
            x.settle(to, 'o');
            x.settle(to, 'b');
            Bench.saveAll(x, 2);
            x.unbranch(1);
        }
        for (int i = 0; i < 100; i++) {
            x.isSound();
            x.share(i % 40);
        }
        Bench.due("long by many ways", x.lines(3) > 1 << 20, true);
    }

    private static void differing(Patchwright x) {
        grow(x, 7);
        x.branch(1);
        for (int side = 0; side < 2; side++) {
            for (int i = 0; i < 90; i++) {
                x.cut(0, (i * 1009 + side * 577) % 4500);
            }
            x.stage(0);
            x.commit(6);
            x.switchTo(1);
        }
        for (int i = 0; i < 60; i++) {
            x.merge(0, i);
            x.giveUp();
        }
        Bench.due("they differ", x.matched(29, 30, 0) < 4850, true);
    }
}
