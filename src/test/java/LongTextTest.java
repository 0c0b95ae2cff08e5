import java.util.ArrayList;
import java.util.Arrays;
import java.util.List;
import java.util.Random;

/** Promises 28 to 31 and all that looks at texts, where merging has made them long: the document bounds no length. */
final class LongTextTest {
    private static final int MANY = 14;
    private static final int VERY_MANY = 17;

    public static void main(String[] args) {
        pickBeyond();
        mergeBeyond();
        takeBackBeyond();
        putOntoBeyond();
        doubled();
        followed();
        beyondNumbers();
        fewChanges();
        manyChanges();
        longByVeryLong();
        firmApart();
        copies();
        everNew(2, 14, 247491);
        everNew(2, 16, 989993);
        everNew(20, 17, 1042045);
        wholeInAnother(false, false, 16);
        wholeInAnother(true, false, 15);
        wholeInAnother(true, true, 15);
        manyWays(3, 0);
        manyWays(5, 4);
        manyWays(8, 9);
        manyWays(10, 6);
        Bench.close("LongTextTest");
    }

    // ---- what the tests are made of

    private static byte[] joined(byte[] one, byte[] other) {
        byte[] both = Arrays.copyOf(one, one.length + other.length);
        System.arraycopy(other, 0, both, one.length, other.length);
        return both;
    }

    private static byte[] without(byte[] text, int place) {
        byte[] less = Arrays.copyOf(text, text.length - 1);
        System.arraycopy(text, place + 1, less, place, less.length - place);
        return less;
    }

    private static void cutAndSave(Patchwright x, int place) {
        x.cut(0, place);
        x.stage(0);
        x.commit(2);
    }

    /** A store whose head has a file 0 of 40 times 2 to the rounds lines, about; text gets its lines. */
    private static Patchwright grown(int rounds, List<byte[]> text) {
        Patchwright x = new Patchwright();
        byte[] lines = new byte[40];
        x.make(0);
        for (int i = 0; i < 40; i++) {
            x.insert(0, i, i);
            lines[i] = (byte) i;
        }
        x.stage(0);
        x.commit(1);
        for (int k = 0; k < rounds; k++) {
            cutAndSave(x, 0);
            Bench.due("grown: picked", x.pick(4 * k), 'c');
            lines = joined(without(lines, 0), lines);
            Bench.due("grown: settled", x.settle(0, 'b'), lines.length);
            x.stage(0);
            x.commit(3);
            x.drop(0);
            x.stage(0);
            x.commit(4);
            Bench.due("grown: taken back", x.takeBack(4 * k + 3, 5), 'm');
        }
        text.add(lines);
        return x;
    }

    private static boolean isText(Patchwright x, int file, byte[] lines) {
        boolean same = x.lines(file) == lines.length;
        for (int i = 0; same && i < lines.length; i++) {
            same = x.lineAt(file, i) == lines[i];
        }
        return same;
    }

    private static byte[] marked(byte[] ours, byte[] theirs) {
        byte[] all = joined(joined(new byte[] {100}, ours), new byte[] {101});
        return joined(joined(all, theirs), new byte[] {102});
    }

    // ---- each of the four methods

    private static void pickBeyond() {
        List<byte[]> text = new ArrayList<>();
        Patchwright x = grown(7, text);
        byte[] lines = text.get(0);
        cutAndSave(x, 0);
        Bench.due("29 long", x.pick(28), 'c');
        Bench.due("29 long: conflicts", Bench.conflicts(x), "a0");
        Bench.due("29 long: lines", x.lines(0), 4992 + 4993 + 3);
        Bench.due("29 long: the text", isText(x, 0, marked(without(lines, 0), lines)), true);
        Bench.due("29 long: settled", x.settle(0, 't'), 4993);
        Bench.due("29 long: as it was picked", isText(x, 0, lines), true);
        x.giveUp();
        Bench.due("29 long: settled before", x.pick(28), 'm');
        Bench.due("29 long: what it was settled to", isText(x, 0, lines), true);
    }

    private static void mergeBeyond() {
        List<byte[]> text = new ArrayList<>();
        Patchwright x = grown(7, text);
        byte[] lines = text.get(0);
        x.reset(27);
        x.branch(1);
        x.reset(28);
        cutAndSave(x, 4000);
        x.switchTo(1);
        x.takeBack(27, 6);
        cutAndSave(x, 17);
        x.switchTo(0);
        Bench.due("28 long", x.merge(1, 7), 'c');
        Bench.due("28 long: conflicts", Bench.conflicts(x), "a0");
        Bench.due("28 long: the text", isText(x, 0, marked(without(lines, 4000), without(lines, 17))), true);
        x.settle(0, 'b');
        x.stage(0);
        Bench.due("28 long: committed", x.commit(8), 32);
        Bench.due("28 long: lines", x.linesOf(32, 0), 2 * 4992);
        Bench.due("28 long: sound", x.isSound(), true);
    }

    private static void takeBackBeyond() {
        List<byte[]> text = new ArrayList<>();
        Patchwright x = grown(8, text);
        byte[] lines = text.get(0);
        Bench.due("30 long: taken back", x.lines(0), 9985);
        cutAndSave(x, 5000);
        Bench.due("30 long", x.takeBack(31, 6), 'c');
        Bench.due("30 long: the text", isText(x, 0, marked(without(lines, 5000), lines)), true);
        Bench.due("30 long: given up", x.giveUp(), 1);
        Bench.due("30 long: the text as before", isText(x, 0, without(lines, 5000)), true);
    }

    private static void putOntoBeyond() {
        List<byte[]> text = new ArrayList<>();
        Patchwright x = grown(8, text);
        byte[] lines = text.get(0);
        x.reset(31);
        x.branch(1);
        x.make(1);
        x.stage(1);
        x.commit(6);
        x.switchTo(1);
        x.takeBack(31, 7);
        cutAndSave(x, 9000);
        Bench.due("31 long", x.putOnto(0), 'm');
        Bench.due("31 long: the text", isText(x, 0, without(lines, 9000)), true);
        Bench.due("31 long: both files", x.lines(1), 0);
        x.switchTo(0);
        x.reset(32);
        cutAndSave(x, 3);
        Bench.due("31 long: a conflict", x.putOnto(1), 'c');
        Bench.due("31 long: nothing is changed", isText(x, 0, without(lines, 3)), true);
    }

    // ---- as long as 60 commits make it

    private static void doubled() {
        List<byte[]> text = new ArrayList<>();
        Patchwright x = grown(MANY, text);
        byte[] lines = text.get(0);
        Bench.due("doubled: lines", x.lines(0), 638977);
        Bench.due("doubled: the text", isText(x, 0, lines), true);
        long sum = 7L * 31 + x.label(56);
        sum = 31 * sum + 1000;
        for (byte line : lines) {
            sum = 31 * sum + line;
        }
        Bench.due("46 long", x.sum(56), 31 * sum + x.sum(55));
        Bench.due("45 long", x.texts(), 2 * MANY + 1);
        Bench.due("20 long", x.matched(52, 56, 0), 319489);
        Bench.due("20 long, the other way round", x.matched(56, 53, 0), 319488);
        Bench.due("39 long", x.blame(0, 0), 56);
        Bench.due("47 long", x.share(56), 1f);
        Bench.due("49 long", x.isSound(), true);
        x.rename(0, 5);
        x.stage(0);
        x.stage(5);
        x.cut(5, 300000);
        x.stage(5);
        x.commit(9);
        Bench.due("21 long", x.movedTo(56, 57, 0), 5);
        Bench.due("39 long, moved", x.blame(5, 638975), 56);
        Bench.fails("3 long", IllegalStateException.class, x, () -> x.insert(5, 0, 1));
        Bench.due("4 long", x.cut(5, 638975), 39);
    }

    /**
     * A commit that moves file 1 to file 2 is picked again and again onto a head that has both: each time the texts
     * of both are put one behind the other.
     */
    private static Patchwright seed() {
        Patchwright x = new Patchwright();
        Bench.write(x, 0, 90, 91);
        Bench.write(x, 1, 92, 93);
        Bench.saveAll(x, 0);
        x.rename(1, 2);
        Bench.saveAll(x, 1);
        x.reset(0);
        x.drop(0);
        Bench.write(x, 1, Bench.count(1, 39));
        Bench.write(x, 2, Bench.count(0, 40));
        Bench.saveAll(x, 2);
        return x;
    }

    private static int pickTwice(Patchwright x) {
        Bench.due("picked again", x.pick(1), 'c');
        int size = x.settle(2, 'b');
        x.stage(2);
        x.rename(2, 1);
        x.restore(2);
        x.cut(1, 0);
        x.stage(1);
        x.commit(3);
        return size;
    }

    /** The commits to which lines are due, worked out from the texts, as each one stands in the next one. */
    private static void followed() {
        Patchwright x = seed();
        List<byte[]> seconds = new ArrayList<>();
        List<byte[]> firsts = new ArrayList<>();
        byte[] lines = new byte[40];
        for (int i = 0; i < 40; i++) {
            lines[i] = (byte) i;
        }
        seconds.add(lines);
        firsts.add(without(lines, 0));
        for (int k = 0; k < VERY_MANY; k++) {
            lines = joined(without(lines, 0), lines);
            seconds.add(lines);
            firsts.add(without(lines, 0));
            Bench.due("followed: lines", pickTwice(x), lines.length);
        }
        Bench.due("followed: the text", isText(x, 2, lines), true);
        int[] due = due(seconds);
        int[] others = due(firsts);
        boolean right = true;
        for (int place = 0; place < others.length; place += place < 300 ? 7 : 123457) {
            right &= x.blame(2, place) == due[place] && x.blame(1, place) == others[place];
        }
        Bench.due("39 followed", right, true);
        for (int commit = 2; commit <= VERY_MANY + 2; commit++) {
            int count = 0;
            for (int place = 0; place < due.length; place++) {
                count += due[place] == commit ? 1 : 0;
                count += place < others.length && others[place] == commit ? 1 : 0;
            }
            Bench.due("47 followed " + commit, x.share(commit), (float) count / (float) (due.length + others.length));
        }
        Bench.due("49 followed", x.isSound(), true);
        Bench.due("20 followed", x.matched(2, VERY_MANY + 2, 2), 40);
        Bench.due("20 followed, back", x.matched(VERY_MANY + 2, VERY_MANY + 1, 2), 2555905);
    }

    /** Each text stands in the next one, so each of its lines is matched with the first one that is left there. */
    private static int[] due(List<byte[]> texts) {
        int[] due = new int[texts.get(0).length];
        Arrays.fill(due, 2);
        for (int k = 1; k < texts.size(); k++) {
            byte[] old = texts.get(k - 1);
            byte[] now = texts.get(k);
            int[] next = new int[now.length];
            int met = 0;
            for (int j = 0; j < now.length; j++) {
                boolean same = met < old.length && old[met] == now[j];
                next[j] = same ? due[met] : k + 2;
                met += same ? 1 : 0;
            }
            due = next;
        }
        return due;
    }

    /** So many lines that no int could tell their number: no call throws what it may not, or takes long. */
    private static void beyondNumbers() {
        Patchwright x = seed();
        for (int k = 0; k < 50; k++) {
            int size = pickTwice(x);
            Bench.due("beyond: lines " + k, k < 25 ? size == 39L * (2L << k) + 1 : size > 1 << 30, true);
        }
        Bench.due("46 beyond", x.sum(52), 31L * sumOfFiles(31L * 7L + x.label(52), 50) + x.sum(51));
        Bench.due("49 beyond", x.isSound(), true);
        Bench.due("39 beyond", x.blame(2, 0), 52);
        Bench.due("47 beyond", x.share(52), 0.5f);
        x.cut(2, 70);
        x.cut(2, 70);
        x.stage(2);
        x.commit(8);
        Bench.due("47 beyond, but for two lines", x.share(52), 0.5f);
        Bench.due("47 beyond, for two commits", x.share(50), 0.125f);
        Bench.due("47 beyond, no line is due", x.share(53), 0f);
        x.reset(52);
        Bench.due("20 beyond", x.matched(52, 2, 2), 40);
        Bench.due("12 beyond", x.lineAt(2, Integer.MAX_VALUE - 1) < 40, true);
        Bench.due("14 beyond", x.linesOf(52, 2) > 1 << 30, true);
        String thrown = "";
        try {
            x.insert(2, 0, 1);
        } catch (IllegalStateException e) {
            thrown = "full";
        }
        Bench.due("3 beyond", thrown, "full");
        Bench.write(x, 2, 1, 50, 2, 51);
        Bench.saveAll(x, 9);
        Bench.due("39 beyond, a line that is new", x.blame(2, 1), 54);
        Bench.due("20 beyond, few lines", x.matched(52, 54, 2), 2);
        x.rename(1, 4);
        Bench.saveAll(x, 9);
        Bench.due("21 beyond", x.movedTo(54, 55, 1), 4);
        Bench.due("25 beyond", x.reset(52), 55);
        Bench.due("7 beyond", x.stage(2), false);
    }

    /**
     * What the files 1 and 2 make of a sum. A text makes of it so many times the sum and a number more; a cut takes
     * its first line off again, as 31 has an inverse among the longs.
     */
    private static long sumOfFiles(long sum, int rounds) {
        long inverse = 31L;
        for (int i = 0; i < 6; i++) {
            inverse *= 2L - 31L * inverse;
        }
        byte[] begin = new byte[40];
        long times = 1L;
        long more = 0L;
        for (int i = 0; i < 40; i++) {
            begin[i] = (byte) i;
            times *= 31L;
            more = 31L * more + i;
        }
        for (int k = 0; k < rounds; k++) {
            long cutTimes = times * inverse;
            long cutMore = more - cutTimes * begin[0];
            more += cutMore * times;
            times *= cutTimes;
            byte[] longer = joined(without(begin, 0), begin);
            begin = Arrays.copyOf(longer, Math.min(longer.length, 200));
        }
        long cutTimes = times * inverse;
        long first = (31L * sum + 1001L) * cutTimes + more - cutTimes * begin[0];
        return (31L * first + 1002L) * times + more;
    }

    // ---- long texts that differ here and there, measured against Model

    private static void fewChanges() {
        Twins x = new Twins();
        x.grow(6);
        x.scatter(12, 7);
        x.fork(12, 11);
        x.compare();
        Bench.due("few changes", x.merge(), "m");
        x.compare();
    }

    private static void manyChanges() {
        Twins x = new Twins();
        x.grow(6);
        x.fork(75, 3);
        x.compare();
        x.merge();
        x.compare();
    }

    /** The class and Model side by side. */
    private static final class Twins {
        final Patchwright x = new Patchwright();
        final Model model = new Model();

        void both(String call, Object got, Object due) {
            Bench.due(call, got, due);
        }

        void save(int label) {
            both("stage", x.stage(0), model.stage(0));
            both("commit", x.commit(label), model.commit(label));
        }

        void cut(int place) {
            both("cut " + place, x.cut(0, place), model.cut(0, place));
        }

        void grow(int rounds) {
            both("make", x.make(0), model.make(0));
            for (int i = 0; i < 40; i++) {
                both("insert", x.insert(0, i, i * i % 41), model.insert(0, i, i * i % 41));
            }
            save(1);
            for (int k = 0; k < rounds; k++) {
                cut(k);
                save(2);
                both("pick", x.pick(4 * k), model.pick(4 * k));
                both("settle", x.settle(0, 'b'), model.settle(0, 'b'));
                save(3);
                both("drop", x.drop(0), model.drop(0));
                save(4);
                both("takeBack", x.takeBack(4 * k + 3, 5), model.takeBack(4 * k + 3, 5));
            }
        }

        void scatter(int cuts, int seed) {
            Random random = new Random(seed);
            for (int i = 0; i < cuts; i++) {
                cut(random.nextInt(x.lines(0)));
            }
            save(6);
        }

        void fork(int cuts, int seed) {
            both("branch", x.branch(1), model.branch(1));
            scatter(cuts, seed);
            both("switchTo", x.switchTo(1), model.switchTo(1));
            scatter(cuts, seed + 1);
        }

        void compare() {
            int last = x.commits() - 1;
            for (int other : new int[] {0, 8, last - 1, last - 2}) {
                both("matched " + other, x.matched(last, other, 0), model.matched(last, other, 0));
                both("matched back " + other, x.matched(other, last, 0), model.matched(other, last, 0));
            }
            for (int place : new int[] {0, 100, 1000, x.lines(0) - 1}) {
                both("blame " + place, x.blame(0, place), model.blame(0, place));
            }
            both("sum", x.sum(last), model.sum(last));
        }

        String merge() {
            String told = String.valueOf(x.merge(0, 8));
            both("merge", told, String.valueOf(model.merge(0, 8)));
            both("conflicts", x.conflicts(), model.conflicts());
            boolean same = x.lines(0) == model.lines(0);
            for (int i = 0; same && i < x.lines(0); i++) {
                same = x.lineAt(0, i) == model.lineAt(0, i);
            }
            both("the merged text", same, true);
            return told;
        }
    }

    // ---- texts that have nothing, or each line, of one another

    /** File 2 gets 20 lines, one and another by turns; file 1 gets them without the first one. */
    private static void turns(Patchwright x, int line, int other) {
        byte[] lines = new byte[20];
        for (int i = 0; i < lines.length; i++) {
            lines[i] = (byte) (i % 2 == 0 ? line : other);
        }
        x.make(2);
        for (int i = 0; i < lines.length; i++) {
            x.insert(2, i, lines[i]);
        }
        copyButFirst(x);
    }

    /** File 1 gets the text of file 2, without the first line. */
    private static void copyButFirst(Patchwright x) {
        x.stage(2);
        x.rename(2, 1);
        x.restore(2);
        x.cut(1, 0);
    }

    private static Patchwright empty() {
        Patchwright x = new Patchwright();
        x.make(1);
        x.insert(1, 0, 99);
        Bench.saveAll(x, 3);
        x.rename(1, 2);
        Bench.saveAll(x, 3);
        x.reset(0);
        x.drop(1);
        return x;
    }

    private static int grow(Patchwright x, int times) {
        for (int k = 0; k < times; k++) {
            pickTwice(x);
        }
        return x.headOf(0);
    }

    /** How many of the lines are the first one, after 20 lines by turns were doubled so often. */
    private static int firsts(int times) {
        byte[] begin = new byte[64];
        for (int i = 0; i < begin.length; i++) {
            begin[i] = (byte) (i % 2);
        }
        int length = 20;
        int count = 10;
        for (int k = 0; k < times; k++) {
            count += count - (begin[0] == 0 ? 1 : 0);
            byte[] next = new byte[64];
            for (int i = 0; i < next.length; i++) {
                next[i] = i < length - 1 ? (i + 1 < begin.length ? begin[i + 1] : 0) : begin[i - length + 1];
            }
            begin = next;
            length += length - 1;
        }
        return count;
    }

    /** Lines 10 and 20, matched with very many lines 30 and behind them lines 10. */
    private static void longByVeryLong() {
        for (int[] times : new int[][] {{6, 6, 16}, {6, 6, 30}, {14, 8, 20}, {16, 17, 10}}) {
            Patchwright x = empty();
            turns(x, 10, 20);
            Bench.saveAll(x, 3);
            int one = grow(x, times[0]);
            x.drop(1);
            x.drop(2);
            turns(x, 10, 10);
            Bench.saveAll(x, 3);
            grow(x, times[1]);
            x.rename(2, 0);
            x.drop(1);
            turns(x, 30, 30);
            Bench.saveAll(x, 3);
            grow(x, times[2]);
            x.drop(1);
            x.rename(2, 1);
            x.rename(0, 2);
            Bench.saveAll(x, 3);
            x.pick(1);
            x.settle(2, 'b');
            Bench.saveAll(x, 3);
            int other = x.headOf(0);
            int due = Math.min(firsts(times[0]), 19 * (1 << times[1]) + 1);
            Bench.due("20 long by very long", x.matched(one, other, 2), due);
            Bench.due("20 long by very long, the other way round", x.matched(other, one, 2), due);
        }
    }

    /** Firm lines that stand apart, in one side alone; all of them, but for one behind them. */
    private static void firmApart() {
        for (int times = 6; times < 26; times += 9) {
            Patchwright x = empty();
            turns(x, 10, 10);
            Bench.saveAll(x, 3);
            int base = grow(x, times);
            int lines = x.lines(2);
            x.cut(2, 0);
            Bench.saveAll(x, 3);
            int theirs = x.headOf(0);
            x.reset(base);
            x.rename(2, 0);
            x.drop(1);
            turns(x, 10, 20);
            Bench.saveAll(x, 3);
            grow(x, times + 1);
            x.drop(1);
            x.rename(2, 1);
            x.rename(0, 2);
            Bench.saveAll(x, 3);
            x.pick(1);
            int ours = x.settle(2, 'b');
            Bench.saveAll(x, 3);
            Bench.due("29 apart: ours", ours, 3 * lines - 1);
            Bench.due("20 apart", x.matched(base, x.headOf(0), 2), lines);
            Bench.due("29 apart", x.pick(theirs), 'c');
            Bench.due("29 apart: conflicts", Bench.conflicts(x), "x2");
            Bench.due("29 apart: lines", x.lines(2), ours + 3);
            x.settle(2, 'o');
            x.stage(2);
            Bench.due("29 apart: as it was", x.staged(2), '-');
            x.giveUp();
            Bench.due("47 apart", x.share(x.headOf(0)) > 0f, true);
        }
    }

    /**
     * Two texts that differ everywhere in an ever new way: each was doubled so often, without a line, from 20 random
     * lines. What is due was worked out from all lines by rows of bits, elsewhere.
     */
    private static void everNew(int kinds, int times, int due) {
        for (boolean crossed : new boolean[] {false, true}) {
            Random random = new Random(1);
            Patchwright x = empty();
            int one = doubledFrom(x, someLines(random, kinds), times);
            int other = doubledFrom(x, someLines(random, kinds), times);
            Bench.due("20 ever new, " + times + " times" + (crossed ? ", the other way round" : ""),
                    x.matched(crossed ? other : one, crossed ? one : other, 2), due);
        }
    }

    private static int[] someLines(Random random, int kinds) {
        int[] lines = new int[20];
        for (int i = 0; i < lines.length; i++) {
            lines[i] = random.nextInt(kinds);
        }
        return lines;
    }

    /** The commit in which file 2 has some lines, doubled so often, each time without a line. */
    private static int doubledFrom(Patchwright x, int[] lines, int times) {
        x.make(2);
        for (int i = 0; i < lines.length; i++) {
            x.insert(2, i, lines[i]);
        }
        copyButFirst(x);
        Bench.saveAll(x, 3);
        int head = grow(x, times);
        x.drop(1);
        x.drop(2);
        return head;
    }

    /**
     * A text that differs everywhere in an ever new way, from random lines 0 and 1, and one with lines 0 and 1 by turns
     * that has room for all of them; in either, the last one of the lines that are doubled may be one that the other
     * text doesn't have.
     */
    private static void wholeInAnother(boolean foreign, boolean foreignInOther, int times) {
        int[] lines = someLines(new Random(3), 2);
        int[] turns = new int[20];
        for (int i = 0; i < turns.length; i++) {
            turns[i] = i % 2;
        }
        lines[19] = foreign ? 98 : lines[19];
        turns[19] = foreignInOther ? 97 : turns[19];
        Patchwright x = empty();
        int one = doubledFrom(x, lines, times);
        int other = doubledFrom(x, turns, times + 1);
        int due = x.linesOf(one, 2) - (foreign ? 1 << times : 0);
        Bench.due("20 whole in another one, " + times + " times", x.matched(one, other, 2), due);
        Bench.due("20 whole in another one, " + times + " times, the other way round", x.matched(other, one, 2), due);
    }

    /** Six files with so many lines that no long tells their number much longer. */
    private static void copies() {
        Patchwright x = empty();
        x.make(2);
        for (int i = 0; i < 40; i++) {
            x.insert(2, i, i);
        }
        copyButFirst(x);
        Bench.saveAll(x, 3);
        grow(x, 53);
        x.pick(1);
        x.settle(2, 'b');
        x.stage(2);
        for (int file : new int[] {0, 1, 3, 4, 5}) {
            x.rename(2, file);
            x.stage(file);
            x.restore(2);
        }
        x.commit(3);
        Bench.due("47 copies: new", x.share(56), 5f / 6f);
        Bench.due("47 copies: the one before", x.share(55), 1f / 12f);
        Bench.due("49 copies", x.isSound(), true);
    }

    // ---- very many lines of the head go to the same lines of an older commit

    /** Another file gets the text of a file, too, but its last line. */
    private static void copyButLast(Patchwright x, int file, int to) {
        x.stage(file);
        x.rename(file, to);
        x.restore(file);
        x.cut(to, x.lines(to) - 1);
        x.stage(to);
    }

    /**
     * A commit whose file 2 has a line for each level, then lines 1 and 3 by turns, then 99; in the file 2 of the commit
     * before there are as many lines 1 or more, then 99.
     */
    private static int turnsBehindOnes(Patchwright x, int levels, int doublings) {
        Bench.write(x, 1, 99);
        Bench.write(x, 4, 98);
        Bench.saveAll(x, 3);
        x.rename(1, 2);
        x.rename(4, 3);
        Bench.saveAll(x, 3);
        x.reset(0);
        x.drop(1);
        x.drop(4);
        x.make(2);
        for (int i = 0; i < 20; i++) {
            x.insert(2, i, 1);
        }
        x.insert(2, 20, 99);
        x.make(3);
        for (int i = 0; i < 38; i++) {
            x.insert(3, i, i % 2 == 0 ? 1 : 3);
        }
        x.insert(3, 38, 99);
        for (int k = 0; k < doublings; k++) {
            copyButLast(x, 2, 1);
            copyButLast(x, 3, 4);
            x.commit(2);
            x.pick(1);
            x.settle(2, 'b');
            x.settle(3, 'b');
        }
        x.rename(2, 0);
        x.rename(3, 2);
        x.make(1);
        for (int i = 0; i < levels; i++) {
            x.insert(1, i, 60 + i);
        }
        Bench.saveAll(x, 3);
        x.pick(1);
        x.settle(2, 'b');
        x.drop(3);
        Bench.saveAll(x, 3);
        x.rename(2, 5);
        x.rename(0, 2);
        Bench.saveAll(x, 3);
        x.drop(2);
        x.rename(5, 2);
        return Bench.saveAll(x, 3);
    }

    /** Both parents get the text, without some of the first lines, and it stands twice in what is merged of them. */
    private static void twice(Patchwright x, int file, int to, int others) {
        x.branch(1);
        x.switchTo(1);
        x.rename(file, to);
        for (int i = 0; i < others; i++) {
            x.cut(to, 1);
        }
        Bench.saveAll(x, 3);
        Bench.write(x, file, 50);
        Bench.saveAll(x, 3);
        x.switchTo(0);
        x.rename(file, to);
        x.cut(to, 0);
        Bench.saveAll(x, 3);
        x.merge(1, 3);
        x.settle(to, 'o');
        x.settle(to, 'b');
        Bench.saveAll(x, 3);
        x.unbranch(1);
    }

    private static void manyWays(int levels, int doublings) {
        Patchwright x = new Patchwright();
        int origin = turnsBehindOnes(x, levels, doublings);
        for (int level = 0; level < levels; level++) {
            twice(x, 2 + level % 2, 3 - level % 2, levels - 1 - level);
        }
        int file = 2 + levels % 2;
        int copies = 1 << levels;
        int lines = copies * ((38 << doublings) + 2) - 1;
        String name = "47 by " + copies + " ways, " + lines + " lines";
        Bench.due(name + ": lines", x.lines(file), lines);
        int due = copies * (19 << doublings) + copies - 1;
        Bench.due(name, x.share(origin), (float) due / (float) lines);
        float all = 0f;
        for (int commit = 0; commit < x.commits(); commit++) {
            all += x.share(commit);
        }
        Bench.due(name + ", all shares", Math.abs(all - 1f) < 0.0001f, true);
        Bench.due("49 by " + copies + " ways", x.isSound(), true);
        int[] counts = new int[x.commits()];
        for (int place = 0; place < lines && lines < 10000; place++) {
            counts[x.blame(file, place)]++;
        }
        for (int commit = 0; commit < counts.length && lines < 10000; commit++) {
            Bench.due(name + ", of " + commit, x.share(commit), (float) counts[commit] / (float) lines);
        }
    }
}
