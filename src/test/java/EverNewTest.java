import java.util.Arrays;
import java.util.Random;

/**
 * Promises 20, 39, 47 and 49 with texts that differ everywhere in an ever new way: each is doubled again and again, each
 * time without some lines at places of its own. What is due is worked out here from all pairs of lines.
 */
final class EverNewTest {
    private static final int TIMES = 13;
    private static final int GROUP = 256;

    private final Random random;
    private Patchwright x = new Patchwright();
    private byte[] second = new byte[0];
    private byte[] third = new byte[0];

    private EverNewTest(long seed) {
        random = new Random(seed);
    }

    public static void main(String[] args) {
        for (long seed = 1; seed <= 6; seed++) {
            new EverNewTest(seed).run(seed % 2 == 0 ? TIMES : TIMES - 3, "ever new, seed " + seed);
        }
        Bench.close("EverNewTest");
    }

    private void stage(int... files) {
        for (int file : files) {
            x.stage(file);
        }
    }

    private byte[] fill(int file, int count, int kinds) {
        byte[] lines = new byte[count];
        for (int i = 0; i < count; i++) {
            lines[i] = (byte) random.nextInt(kinds);
            x.insert(file, i, lines[i]);
        }
        return lines;
    }

    private void begin() {
        x.make(1);
        x.make(4);
        x.make(5);
        stage(1, 4, 5);
        x.commit(0);
        x.rename(1, 0);
        x.rename(4, 2);
        x.rename(5, 3);
        stage(0, 1, 2, 3, 4, 5);
        x.commit(0);
        for (int i = 0; i < 30; i++) {
            x.insert(0, i, 99);
        }
        second = fill(2, 12, 5);
        third = fill(3, 9, 5);
    }

    private byte[] cutSome(int file, byte[] lines) {
        byte[] left = lines;
        for (int k = 0; k < 3; k++) {
            int place = random.nextInt(left.length);
            byte[] less = Arrays.copyOf(left, left.length - 1);
            System.arraycopy(left, place + 1, less, place, less.length - place);
            x.cut(file, place);
            left = less;
        }
        return left;
    }

    private static byte[] joined(byte[] one, byte[] other) {
        byte[] both = Arrays.copyOf(one, one.length + other.length);
        System.arraycopy(other, 0, both, one.length, other.length);
        return both;
    }

    /** Files 2 and 3 become what they are, without some lines, and behind it what they are. */
    private void join(int commit) {
        x.stage(0);
        x.cut(0, 0);
        x.rename(0, 1);
        x.stage(1);
        x.stage(2);
        second = joined(cutSome(2, second), second);
        x.rename(2, 4);
        x.stage(4);
        x.stage(3);
        third = joined(cutSome(3, third), third);
        x.rename(3, 5);
        x.stage(5);
        x.commit(2);
        x.reset(commit);
        x.pick(1);
        x.settle(0, 'b');
        x.settle(2, 'b');
        x.settle(3, 'b');
    }

    private void build(int times, long seed) {
        random.setSeed(seed);
        x = new Patchwright();
        begin();
        for (int k = 0; k < times; k++) {
            join(k + 2);
        }
        stage(0, 2, 3);
        x.commit(3);
        x.rename(2, 4);
        x.rename(0, 2);
        stage(0, 2, 4);
        x.commit(4);
        x.pick(1);
        x.settle(2, 'b');
        x.stage(2);
        x.commit(5);
        x.drop(2);
        x.rename(3, 2);
        stage(2, 3);
        x.commit(6);
    }

    private void run(int times, String name) {
        long seed = random.nextLong();
        build(times, seed);
        int top = times + 2;
        Bench.due(name + ": lines", x.linesOf(top, 2), second.length);
        Bench.due(name + ": lines of the other one", x.linesOf(top + 3, 2), third.length);
        boolean[] found = matchedLines();
        int due = 0;
        for (boolean one : found) {
            due += one ? 1 : 0;
        }
        Bench.due(name + ": behind it lines of its own", x.matched(top + 2, top + 3, 2), due);
        Bench.due(name + ": without these", x.matched(top, top + 3, 2), due);
        build(times, seed);
        Bench.due(name + ": asked the other way round", x.matched(top + 3, top, 2), due);
        build(times, seed);
        float share = (float) (third.length - due) / (float) third.length;
        Bench.due(name + ": share of the head", x.share(top + 3), share);
        float rest = 0f;
        for (int commit = 0; commit < top + 3; commit++) {
            rest += x.share(commit);
        }
        Bench.due(name + ": shares of all others", Math.abs(rest + share - 1f) < 0.00001f, true);
        Bench.due(name + ": sound", x.isSound(), true);
        for (int k = 0; k < 40; k++) {
            int place = k < 20 ? random.nextInt(third.length) : k - 20;
            Bench.due(name + ": blame of " + place, x.blame(2, place) < top + 3, found[place]);
        }
    }

    /** Which lines of the third file are matched with one of the second file, as the document says, place by place. */
    private boolean[] matchedLines() {
        boolean[] found = new boolean[third.length];
        long[][] masks = masks();
        // the rows of bits behind each group of lines of the second file, worked out from the end; then each group's own
        long[][] behind = new long[second.length / GROUP + 1][];
        long[] row = new long[masks[0].length];
        Arrays.fill(row, -1L);
        for (int i = second.length - 1; i >= 0; i--) {
            behind[i / GROUP] = behind[i / GROUP] == null ? row.clone() : behind[i / GROUP];
            rise(row, masks[second[i]]);
        }
        int i = 0;
        int j = 0;
        while (i < second.length && j < third.length) {
            int from = i / GROUP * GROUP;
            int to = Math.min(second.length, from + GROUP);
            long[][] rows = new long[to - from + 1][];
            rows[to - from] = behind[i / GROUP];
            for (int k = to - 1; k >= from; k--) {
                rows[k - from] = rows[k - from + 1].clone();
                rise(rows[k - from], masks[second[k]]);
            }
            while (i < to && j < third.length) {
                if (second[i] == third[j]) {
                    found[j] = true;
                    i++;
                    j++;
                } else if (rest(rows[i - from + 1], j) >= rest(rows[i - from], j + 1)) {
                    i++;
                } else {
                    j++;
                }
            }
        }
        return found;
    }

    /** For each line the bits of its places in the third file, the last place having the lowest bit. */
    private long[][] masks() {
        long[][] masks = new long[100][(third.length + 63) / 64];
        for (int j = 0; j < third.length; j++) {
            int bit = third.length - 1 - j;
            masks[third[j]][bit / 64] |= 1L << bit % 64;
        }
        return masks;
    }

    /** Puts a line ahead of those that a row of bits is for; a bit is 0 where the greatest common row grows. */
    private static void rise(long[] row, long[] mask) {
        long carry = 0L;
        for (int w = 0; w < row.length; w++) {
            long met = row[w] & mask[w];
            long sum = row[w] + met + carry;
            carry = (met | row[w] & ~sum) >>> 63;
            row[w] = sum | row[w] & ~mask[w];
        }
    }

    /** How long the greatest common row is from a place of the third file on: as many bits are 0. */
    private int rest(long[] row, int place) {
        int bits = third.length - place;
        int count = 0;
        for (int w = 0; w < bits / 64; w++) {
            count += 64 - Long.bitCount(row[w]);
        }
        return bits % 64 == 0 ? count : count + bits % 64 - Long.bitCount(row[bits / 64] & (1L << bits % 64) - 1);
    }
}
