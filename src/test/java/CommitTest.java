import java.util.NoSuchElementException;

/** Promises 13 to 21 and 44 to 48: commits, what is read from them, and sums over them. */
final class CommitTest {
    private static final Class<IndexOutOfBoundsException> RANGE = IndexOutOfBoundsException.class;
    private static final Class<NoSuchElementException> MISSING = NoSuchElementException.class;
    private static final Class<IllegalArgumentException> ARGUMENT = IllegalArgumentException.class;
    private static final Class<IllegalStateException> STATE = IllegalStateException.class;
    private static final Class<UnsupportedOperationException> UNSUPPORTED = UnsupportedOperationException.class;

    public static void main(String[] args) {
        commit();
        commitWithMark();
        commitOfWhatWaits();
        mostCommits();
        reading();
        reachesAndBases();
        matched();
        movedTo();
        counts();
        sums();
        share();
        Bench.close("CommitTest");
    }

    private static void commit() {
        Patchwright x = new Patchwright();
        Bench.fails("13 no files without a head", STATE, x, () -> x.commit(0));
        Bench.fails("13 label first", ARGUMENT, x, () -> x.commit(-1));
        x.make(0);
        Bench.fails("13 nothing staged", STATE, x, () -> x.commit(0));
        x.insert(0, 0, 3);
        x.stage(0);
        x.insert(0, 1, 4);
        Bench.fails("13 label", ARGUMENT, x, () -> x.commit(Integer.MIN_VALUE));
        Bench.due("13 first", x.commit(0), 0);
        Bench.due("13 the index, not the working copy", Bench.textOf(x, 0, 0).toString(), "[3]");
        Bench.due("13 the working copy stays", Bench.files(x), "0=[3, 4]");
        Bench.due("13 head", x.headOf(0), 0);
        Bench.fails("13 the head's tree", STATE, x, () -> x.commit(1));
        x.stage(0);
        Bench.due("13 second", x.commit(Integer.MAX_VALUE), 1);
        Bench.due("13 parent", x.parent(1, 0), 0);
        Bench.fails("13 no second parent", MISSING, x, () -> x.parent(1, 1));
        Bench.due("13 label is kept", x.label(1), Integer.MAX_VALUE);
        x.drop(0);
        x.stage(0);
        Bench.due("13 a tree without files", x.commit(5), 2);
        Bench.due("13 no files", Bench.filesOf(x, 2), "");
    }

    private static void commitWithMark() {
        Bench.due("13 the highest line is no mark", Bench.save(new Patchwright(), 0, 0, 99), 0);
        Patchwright x = Bench.fork(Bench.row(1), Bench.row(2), Bench.row(3));
        x.merge(1, 0);
        Bench.fails("13 mark", UNSUPPORTED, x, () -> x.commit(1));
        Bench.fails("13 label ahead of mark", ARGUMENT, x, () -> x.commit(-1));
        x.settle(0, 'o');
        Bench.fails("13 mark in the index", UNSUPPORTED, x, () -> x.commit(1));
        x.restore(0);
        x.cut(0, 0);
        x.cut(0, 3);
        x.stage(0);
        Bench.fails("13 one mark of three", UNSUPPORTED, x, () -> x.commit(1));
        x.cut(0, 1);
        x.stage(0);
        Bench.due("13 without marks", x.commit(1), 3);
        Bench.due("13 cut by hand", Bench.filesOf(x, 3), "0=[2, 3]");
        Patchwright y = Bench.fork(Bench.row(1), Bench.row(2), Bench.row(3));
        y.merge(1, 0);
        y.rename(0, 4);
        y.stage(0);
        Bench.due("13 a mark in the working copy alone", y.commit(1), 3);
        Bench.due("13 it stays there", Bench.files(y), "4=[100, 2, 101, 3, 102]");
        Bench.due("37 settled though nothing waits", y.settle(4, 't'), 1);
    }

    private static void commitOfWhatWaits() {
        Patchwright x = Bench.fork(Bench.row(1), Bench.row(2), Bench.row(3));
        x.merge(1, 50);
        x.settle(0, 'o');
        x.stage(0);
        Bench.due("13 a merge that waits, with the head's tree", x.commit(9), 3);
        Bench.due("13 parents", x.parent(3, 0) * 10 + x.parent(3, 1), 21);
        Bench.due("13 own label", x.label(3), 9);
        Bench.due("13 nothing waits", x.waits(), '-');
        Bench.due("13 no conflicts", x.conflicts(), 0);
        Patchwright y = Bench.fork(Bench.row(1), Bench.row(2), Bench.row(3));
        y.pick(1);
        y.settle(0, 'o');
        y.stage(0);
        Bench.fails("13 a pick that waits, with the head's tree", STATE, y, () -> y.commit(9));
        y.restore(0);
        y.insert(0, 0, 8);
        y.stage(0);
        Bench.due("13 a pick", y.commit(9), 3);
        Bench.due("13 the label of the pick", y.label(3), 1);
        Bench.fails("13 a pick has one parent", MISSING, y, () -> y.parent(3, 1));
        Patchwright z = Bench.store(1);
        Bench.save(z, 1, 0, 2);
        Bench.save(z, 2, 0, 3);
        z.takeBack(1, 30);
        Bench.due("13 a taking back waits", z.waits(), 't');
        z.settle(0, 'b');
        z.stage(0);
        z.commit(31);
        Bench.due("13 the label of commit, not of the taking back", z.label(3), 31);
    }

    private static void mostCommits() {
        Patchwright x = Bench.store();
        for (int c = 1; c < 60; c++) {
            if (x.lines(0) < 40) {
                x.insert(0, 0, c);
            } else {
                x.cut(0, 0);
            }
            x.stage(0);
            Bench.due("13 up to 60", x.commit(c), c);
        }
        x.cut(0, 0);
        x.stage(0);
        Bench.fails("13 60 commits were made", STATE, x, () -> x.commit(0));
        Bench.due("44 all", x.commits(), 60);
        Bench.due("49 sound", x.isSound(), true);
        x.reset(3);
        for (int i = 0; i < 3; i++) {
            x.reset(2);
            x.reset(3);
        }
        x.collect();
        Bench.due("44 most collected", x.commits(), 4);
        x.cut(0, 0);
        x.stage(0);
        Bench.fails("13 60 were made, though collected", STATE, x, () -> x.commit(0));
    }

    private static void reading() {
        Patchwright x = Bench.store(1, 2);
        Bench.save(x, 8, 3, 9);
        Bench.due("14 lines", x.linesOf(0, 0), 2);
        Bench.due("14 lines later", x.linesOf(1, 3), 1);
        Bench.fails("14 file", RANGE, x, () -> x.linesOf(7, 6));
        Bench.fails("14 file below", RANGE, x, () -> x.linesOf(0, -1));
        Bench.fails("14 commit", MISSING, x, () -> x.linesOf(2, 0));
        Bench.fails("14 commit below", MISSING, x, () -> x.linesOf(-1, 0));
        Bench.fails("14 no such file", MISSING, x, () -> x.linesOf(0, 3));
        Bench.due("15 line", x.lineOf(0, 0, 1), 2);
        Bench.fails("15 file", RANGE, x, () -> x.lineOf(7, 6, 0));
        Bench.fails("15 commit", MISSING, x, () -> x.lineOf(2, 0, 0));
        Bench.fails("15 no such file", MISSING, x, () -> x.lineOf(0, 3, 0));
        Bench.fails("15 no such line", MISSING, x, () -> x.lineOf(0, 0, 2));
        Bench.fails("15 no such line below", MISSING, x, () -> x.lineOf(0, 0, -1));
        Bench.due("16 parent", x.parent(1, 0), 0);
        Bench.fails("16 no first parent", MISSING, x, () -> x.parent(0, 0));
        Bench.fails("16 no second parent", MISSING, x, () -> x.parent(1, 1));
        Bench.fails("16 no third parent", MISSING, x, () -> x.parent(1, 2));
        Bench.fails("16 parent below", MISSING, x, () -> x.parent(1, -1));
        Bench.fails("16 commit", MISSING, x, () -> x.parent(60, 0));
        Bench.due("17 label", x.label(1), 8);
        Bench.fails("17 commit", MISSING, x, () -> x.label(2));
        Bench.fails("17 commit below", MISSING, x, () -> x.label(-1));
        Bench.fails("17 commit far", MISSING, x, () -> x.label(64));
        collected();
    }

    private static void collected() {
        Patchwright x = Bench.store(1);
        x.branch(1);
        x.switchTo(1);
        Bench.save(x, 1, 0, 2);
        x.switchTo(0);
        x.unbranch(1);
        Bench.due("43 one", x.collect(), 1);
        Bench.fails("14 collected", MISSING, x, () -> x.linesOf(1, 0));
        Bench.fails("15 collected", MISSING, x, () -> x.lineOf(1, 0, 0));
        Bench.fails("16 collected", MISSING, x, () -> x.parent(1, 0));
        Bench.fails("17 collected", MISSING, x, () -> x.label(1));
        Bench.fails("18 collected", MISSING, x, () -> x.reaches(1, 0));
        Bench.fails("18 other collected", MISSING, x, () -> x.reaches(0, 1));
        Bench.fails("19 collected", MISSING, x, () -> x.bases(1, 0));
        Bench.fails("19 other collected", MISSING, x, () -> x.bases(0, 1));
        Bench.fails("20 collected", MISSING, x, () -> x.matched(1, 0, 0));
        Bench.fails("20 other collected", MISSING, x, () -> x.matched(0, 1, 0));
        Bench.fails("21 collected", MISSING, x, () -> x.movedTo(1, 0, 0));
        Bench.fails("21 other collected", MISSING, x, () -> x.movedTo(0, 1, 0));
        Bench.fails("25 collected", MISSING, x, () -> x.reset(1));
        Bench.fails("29 collected", MISSING, x, () -> x.pick(1));
        Bench.fails("30 collected", MISSING, x, () -> x.takeBack(1, 0));
        Bench.fails("40 collected", MISSING, x, () -> x.search(0, 1));
        Bench.fails("46 collected", MISSING, x, () -> x.sum(1));
        Bench.fails("47 collected", MISSING, x, () -> x.share(1));
        Bench.due("13 numbers go on", Bench.save(x, 1, 0, 2), 2);
    }

    private static void reachesAndBases() {
        Patchwright x = Bench.fork(Bench.row(1, 2, 3), Bench.row(1, 2, 3, 4), Bench.row(0, 1, 2, 3));
        Bench.due("28 merged", x.merge(1, 3), 'm');
        Bench.due("18 itself", x.reaches(1, 1), true);
        Bench.due("18 first parent", x.reaches(3, 2), true);
        Bench.due("18 second parent", x.reaches(3, 1), true);
        Bench.due("18 theirs", x.reaches(3, 0), true);
        Bench.due("18 not downwards", x.reaches(0, 3), false);
        Bench.due("18 not beside", x.reaches(1, 2), false);
        Bench.fails("18 commit", MISSING, x, () -> x.reaches(4, 0));
        Bench.fails("18 other", MISSING, x, () -> x.reaches(0, -1));
        Bench.due("19 one", x.bases(1, 2), 1);
        Bench.due("19 itself", x.bases(2, 2), 1);
        Bench.due("19 one above the other", x.bases(3, 1), 1);
        Bench.fails("19 commit", MISSING, x, () -> x.bases(4, 0));
        Bench.fails("19 other", MISSING, x, () -> x.bases(0, 4));
        x.branch(2);
        x.reset(2);
        x.switchTo(1);
        x.branch(3);
        Bench.save(x, 5, 0, 9, 1, 2, 3);
        x.switchTo(0);
        Bench.save(x, 6, 0, 1, 2, 3, 4, 9);
        // 4 upon 1, 5 upon 2; 3 is a merge of both 2 and 1
        Bench.due("19 a merge and one side", x.bases(3, 4), 1);
        Bench.due("19 both sides", x.bases(4, 5), 1);
        x.branch(4);
        x.reset(2);
        Bench.due("28 the other way round", criss(x), 2);
    }

    /** Merges 1 into 2 a second time, so that the two merges have the two bases 1 and 2. */
    private static int criss(Patchwright x) {
        x.reset(1);
        x.branch(5);
        x.reset(2);
        x.merge(5, 7);
        int second = x.headOf(0);
        return x.bases(3, second);
    }

    private static void matched() {
        Patchwright x = Bench.store(1, 2, 3, 4);
        Bench.save(x, 1, 0, 2, 1, 3, 5);
        Bench.due("20 matched", x.matched(0, 1, 0), 2);
        Bench.due("20 itself", x.matched(0, 0, 0), 4);
        Bench.save(x, 2, 0);
        Bench.due("20 empty", x.matched(0, 2, 0), 0);
        Bench.save(x, 3, 1, 7);
        Bench.fails("20 file", RANGE, x, () -> x.matched(9, 9, 6));
        Bench.fails("20 file below", RANGE, x, () -> x.matched(0, 1, -1));
        Bench.fails("20 commit", MISSING, x, () -> x.matched(4, 0, 0));
        Bench.fails("20 other", MISSING, x, () -> x.matched(0, 4, 0));
        Bench.fails("20 the commit has it not", MISSING, x, () -> x.matched(0, 3, 1));
        Bench.fails("20 the other has it not", MISSING, x, () -> x.matched(3, 0, 1));
        int[] odd = new int[40];
        int[] even = new int[40];
        for (int i = 0; i < 40; i++) {
            odd[i] = i % 7;
            even[i] = i % 5;
        }
        Patchwright y = Bench.store(odd);
        Bench.save(y, 1, 0, even);
        Bench.due("20 long", y.matched(0, 1, 0), longest(odd, even));
    }

    private static int longest(int[] a, int[] b) {
        int[][] best = new int[a.length + 1][b.length + 1];
        for (int i = 0; i < a.length; i++) {
            for (int j = 0; j < b.length; j++) {
                best[i + 1][j + 1] = a[i] == b[j] ? best[i][j] + 1 : Math.max(best[i][j + 1], best[i + 1][j]);
            }
        }
        return best[a.length][b.length];
    }

    private static void movedTo() {
        Patchwright x = Bench.store(1, 2, 3, 4);
        x.rename(0, 3);
        Bench.saveAll(x, 1);
        Bench.due("21 moved", x.movedTo(0, 1, 0), 3);
        Bench.due("21 back", x.movedTo(1, 0, 3), 0);
        Bench.fails("21 file", RANGE, x, () -> x.movedTo(9, 9, 6));
        Bench.fails("21 file below", RANGE, x, () -> x.movedTo(0, 1, -1));
        Bench.fails("21 commit", MISSING, x, () -> x.movedTo(2, 0, 0));
        Bench.fails("21 other", MISSING, x, () -> x.movedTo(0, 2, 0));
        Bench.fails("21 no such file", MISSING, x, () -> x.movedTo(0, 1, 5));
        Bench.fails("21 the new one is not moved", MISSING, x, () -> x.movedTo(0, 1, 3));
        Bench.fails("21 no move", MISSING, x, () -> x.movedTo(0, 0, 0));
        Bench.due("21 half is enough", move(Bench.row(1, 2, 3, 4), Bench.row(1, 2, 8, 9)), 5);
        Bench.due("21 less than half is not", move(Bench.row(1, 2, 3, 4), Bench.row(1, 2, 8, 9, 7)), -1);
        Bench.due("21 two empty ones", move(Bench.row(), Bench.row()), 5);
        Bench.due("21 one empty one", move(Bench.row(), Bench.row(1)), -1);
        Bench.due("21 the cut likeness: 200 * 1 / 3", move(Bench.row(1, 2), Bench.row(1)), 5);
        Bench.due("21 13 of 26 lines", move(Bench.count(0, 26), Bench.count(13, 26)), 5);
        Bench.due("21 a likeness of 49: 13 of 26 and 27", move(Bench.count(0, 26), Bench.count(13, 27)), -1);
        choices();
    }

    /** Where file 0 with one text goes if file 5 with the other one is there instead, or -1. */
    private static int move(int[] from, int[] to) {
        Patchwright x = Bench.store(from);
        x.drop(0);
        Bench.save(x, 1, 5, to);
        try {
            return x.movedTo(0, 1, 0);
        } catch (NoSuchElementException e) {
            return -1;
        }
    }

    private static void choices() {
        Patchwright x = new Patchwright();
        Bench.write(x, 0, 1, 2, 3, 4);
        Bench.write(x, 1, 1, 2, 3, 5);
        Bench.saveAll(x, 0);
        x.drop(0);
        x.drop(1);
        Bench.write(x, 2, 1, 2, 3, 5);
        Bench.write(x, 3, 1, 2, 3, 4);
        Bench.saveAll(x, 1);
        Bench.due("21 the likest first", x.movedTo(0, 1, 0), 3);
        Bench.due("21 then the rest", x.movedTo(0, 1, 1), 2);
        Patchwright y = new Patchwright();
        Bench.write(y, 0, 1, 2);
        Bench.write(y, 1, 1, 2);
        Bench.write(y, 2, 1, 2);
        Bench.saveAll(y, 0);
        y.rename(0, 5);
        y.rename(1, 4);
        y.drop(2);
        Bench.saveAll(y, 1);
        Bench.due("21 the lowest gone, the lowest new", y.movedTo(0, 1, 0), 4);
        Bench.due("21 then the next ones", y.movedTo(0, 1, 1), 5);
        Bench.fails("21 none is left", MISSING, y, () -> y.movedTo(0, 1, 2));
    }

    private static void counts() {
        Patchwright x = new Patchwright();
        Bench.fails("48 none", ArithmeticException.class, x, () -> x.meanParents());
        Bench.due("44 none", x.commits(), 0);
        Bench.due("45 none", x.texts(), 0);
        x.make(0);
        x.make(1);
        Bench.saveAll(x, 0);
        Bench.due("45 the same text twice", x.texts(), 1);
        Bench.due("48 no parents", x.meanParents(), 0.0);
        Bench.save(x, 1, 1, 5);
        Bench.due("44 two", x.commits(), 2);
        Bench.due("45 two", x.texts(), 2);
        Bench.due("48 half", x.meanParents(), 0.5);
        x.insert(0, 0, 6);
        x.stage(0);
        Bench.due("45 of commits alone", x.texts(), 2);
        Patchwright y = Bench.fork(Bench.row(1, 2, 3), Bench.row(1, 2, 3, 4), Bench.row(0, 1, 2, 3));
        y.merge(1, 3);
        Bench.due("48 a merge has two", y.meanParents(), 1.0);
        Bench.save(y, 1, 1, 5);
        Bench.due("48 five parents of five", y.meanParents(), 5.0 / 5.0);
        Bench.save(y, 1, 1, 6);
        Bench.due("45 six texts", y.texts(), 6);
        Patchwright z = Bench.store(1);
        Bench.save(z, 1, 0, 2);
        Bench.save(z, 2, 0, 3);
        Bench.due("48 two parents of three", z.meanParents(), 2.0 / 3.0);
        for (int i = 0; i < 3; i++) {
            z.reset(0);
            z.reset(1);
        }
        Bench.due("43 the last one", z.collect(), 1);
        Bench.due("45 without the collected", z.texts(), 2);
        Bench.due("48 without the collected", z.meanParents(), 0.5);
    }

    private static void sums() {
        Patchwright x = new Patchwright();
        Bench.write(x, 1, 5, 6);
        Bench.write(x, 4);
        Bench.stageAll(x);
        x.commit(12);
        long sum = 7;
        for (long next : new long[] {12, 1001, 5, 6, 1004}) {
            sum = 31 * sum + next;
        }
        Bench.due("46 first", x.sum(0), sum);
        x.branch(1);
        Bench.save(x, 13, 1, 5);
        long second = 7;
        for (long next : new long[] {13, 1001, 5, 1004, sum}) {
            second = 31 * second + next;
        }
        Bench.due("46 with a parent", x.sum(1), second);
        x.switchTo(1);
        Bench.save(x, 14, 4, 9);
        x.merge(0, 15);
        long merged = 7;
        for (long next : new long[] {15, 1001, 5, 1004, 9, x.sum(2), x.sum(1)}) {
            merged = 31 * merged + next;
        }
        Bench.due("46 with two parents, going round", x.sum(3), merged);
        Bench.due("46 file 0 too", Bench.store(3).sum(0), ((7L * 31 + 0) * 31 + 1000) * 31 + 3);
        Bench.fails("46 commit", MISSING, x, () -> x.sum(4));
        Bench.fails("46 commit below", MISSING, x, () -> x.sum(-1));
    }

    private static void share() {
        Patchwright x = new Patchwright();
        Bench.fails("47 no commit", MISSING, x, () -> x.share(0));
        x.make(0);
        Bench.saveAll(x, 0);
        Bench.fails("47 no lines", ArithmeticException.class, x, () -> x.share(0));
        Bench.fails("47 no such commit, no lines", MISSING, x, () -> x.share(1));
        Bench.save(x, 1, 0, 1, 2);
        Bench.save(x, 2, 3, 7);
        Bench.due("47 two of three", x.share(1), 2f / 3f);
        Bench.due("47 one of three", x.share(2), 1f / 3f);
        Bench.due("47 none", x.share(0), 0f);
    }
}
