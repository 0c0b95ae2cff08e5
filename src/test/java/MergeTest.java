import java.util.ArrayList;
import java.util.List;
import java.util.NoSuchElementException;

/** Promises 28 to 38 and the terms below them: merging texts and trees, picks, settling. */
final class MergeTest {
    private static final Class<IndexOutOfBoundsException> RANGE = IndexOutOfBoundsException.class;
    private static final Class<NoSuchElementException> MISSING = NoSuchElementException.class;
    private static final Class<IllegalArgumentException> ARGUMENT = IllegalArgumentException.class;
    private static final Class<IllegalStateException> STATE = IllegalStateException.class;
    private static final Class<UnsupportedOperationException> UNSUPPORTED = UnsupportedOperationException.class;

    public static void main(String[] args) {
        merge();
        mergeErrors();
        texts();
        trees();
        moves();
        twoTextsForOneFile();
        bases();
        pick();
        takeBack();
        waiting();
        settle();
        settledAgain();
        longTexts();
        fullStore();
        Bench.close("MergeTest");
    }

    private static String merged(int[] base, int[] ours, int[] theirs) {
        Patchwright x = Bench.fork(base, ours, theirs);
        return x.merge(1, 0) + " " + Bench.text(x, 0);
    }

    private static void merge() {
        Patchwright x = Bench.fork(Bench.row(1, 2, 3), Bench.row(1, 2, 3, 4), Bench.row(0, 1, 2, 3));
        x.branch(3);
        Bench.due("28 a merge", x.merge(1, 77), 'm');
        Bench.due("28 the tree", Bench.filesOf(x, 3), "0=[0, 1, 2, 3, 4]");
        Bench.due("28 the working copy", Bench.files(x), "0=[0, 1, 2, 3, 4]");
        Bench.due("28 the index", x.change(0) + "" + x.staged(0), "--");
        Bench.due("28 ours is the first parent", x.parent(3, 0), 2);
        Bench.due("28 theirs the second one", x.parent(3, 1), 1);
        Bench.due("28 label", x.label(3), 77);
        Bench.due("28 nothing waits", x.waits(), '-');
        Bench.due("28 log", x.logAt(0, 0), 3);
        Bench.due("28 reached already", x.merge(1, 0), 'u');
        Bench.due("28 itself", x.merge(0, 0), 'u');
        Bench.due("28 the other one stays", x.headOf(1), 1);
        x.switchTo(3);
        Bench.due("28 forwards", x.merge(0, 0), 'f');
        Bench.due("28 gets it", x.headOf(3), 3);
        Bench.due("28 its tree too", Bench.files(x), "0=[0, 1, 2, 3, 4]");
        Bench.due("28 no commit for that", x.commits(), 4);
        Patchwright y = Bench.fork(Bench.row(1), Bench.row(2), Bench.row(2));
        Bench.due("28 the same on both sides, still a commit", y.merge(1, 0), 'm');
        Bench.due("28 of the head's tree", y.sum(3) != y.sum(2), true);
    }

    private static void mergeErrors() {
        Patchwright x = Bench.fork(Bench.row(1), Bench.row(2), Bench.row(3));
        Bench.fails("28 number", RANGE, x, () -> x.merge(6, -1));
        Bench.fails("28 number below", RANGE, x, () -> x.merge(-1, 0));
        Bench.fails("28 missing", MISSING, x, () -> x.merge(2, -1));
        Bench.fails("28 label", ARGUMENT, x, () -> x.merge(1, -1));
        x.make(5);
        Bench.fails("28 not clean", STATE, x, () -> x.merge(1, 0));
        Bench.fails("28 not clean, even with itself", STATE, x, () -> x.merge(0, 0));
        Bench.fails("28 label, not clean", ARGUMENT, x, () -> x.merge(1, -1));
        x.drop(5);
        Bench.due("28 conflicts", x.merge(1, 0), 'c');
        Bench.fails("28 waits", STATE, x, () -> x.merge(1, 0));
        Bench.fails("29 waits", STATE, x, () -> x.pick(1));
        Bench.fails("30 waits", STATE, x, () -> x.takeBack(1, 0));
        Bench.fails("31 waits", STATE, x, () -> x.putOnto(1));
        Patchwright y = new Patchwright();
        Bench.fails("28 without a commit", MISSING, y, () -> y.merge(0, 0));
    }

    private static void texts() {
        Bench.due("merging: ours is theirs", merged(Bench.row(1), Bench.row(2), Bench.row(2)), "m [2]");
        Bench.due("merging: ours is the base's", merged(Bench.row(1, 5), Bench.row(1, 5, 6), Bench.row(7, 1, 5)),
                "m [7, 1, 5, 6]");
        Bench.due("merging: one side cuts, the other adds",
                merged(Bench.row(1, 2, 3, 4, 5), Bench.row(1, 3, 4, 5), Bench.row(1, 2, 3, 4, 9, 5)),
                "m [1, 3, 4, 9, 5]");
        Bench.due("merging: both make the same part",
                merged(Bench.row(1, 2, 3, 4), Bench.row(1, 7, 3, 4, 5), Bench.row(1, 7, 3, 4)), "m [1, 7, 3, 4, 5]");
        Bench.due("merging: a conflict between firm lines",
                merged(Bench.row(1, 2, 3), Bench.row(1, 7, 3), Bench.row(1, 8, 9, 3)),
                "c [1, 100, 7, 101, 8, 9, 102, 3]");
        Bench.due("merging: a conflict ahead and one behind",
                merged(Bench.row(1, 2, 3), Bench.row(4, 2, 5), Bench.row(6, 2, 7)),
                "c [100, 4, 101, 6, 102, 2, 100, 5, 101, 7, 102]");
        Bench.due("merging: cut here, another line there",
                merged(Bench.row(1, 2, 3), Bench.row(1, 3), Bench.row(1, 8, 3)), "c [1, 100, 101, 8, 102, 3]");
        Bench.due("merging: both insert between firm lines",
                merged(Bench.row(1, 2), Bench.row(1, 5, 2), Bench.row(1, 6, 2)), "c [1, 100, 5, 101, 6, 102, 2]");
        Bench.due("merging: firm is what is matched on both sides",
                merged(Bench.row(1, 2), Bench.row(2, 9), Bench.row(1, 8)), "c [100, 2, 9, 101, 1, 8, 102]");
        // 1 2 with 2 1: passing over the 1 of the base is as good, so the 2 is matched, and 1 stands ahead of theirs
        Bench.due("matching: the first text is passed over first",
                merged(Bench.row(1, 2), Bench.row(2, 1), Bench.row(3, 1, 2)), "c [100, 101, 3, 1, 102, 2, 1]");
        Bench.due("matching: equal lines at once",
                merged(Bench.row(1, 1), Bench.row(1), Bench.row(1, 1, 5)), "c [1, 100, 101, 1, 5, 102]");
    }

    /** Two trees: what each side does with the base's files, as commits 1 (theirs, branch 1) and 2 (ours). */
    private interface Side {
        void change(Patchwright x);
    }

    private static Patchwright sides(int[][] base, Side ours, Side theirs) {
        Patchwright x = new Patchwright();
        for (int f = 0; f < base.length; f++) {
            if (base[f] != null) {
                Bench.write(x, f, base[f]);
            }
        }
        Bench.saveAll(x, 0);
        x.branch(1);
        x.switchTo(1);
        theirs.change(x);
        Bench.saveAll(x, 1);
        x.switchTo(0);
        ours.change(x);
        Bench.saveAll(x, 2);
        return x;
    }

    private static String mergedTrees(int[][] base, Side ours, Side theirs) {
        Patchwright x = sides(base, ours, theirs);
        char how = x.merge(1, 3);
        String conflicts = Bench.conflicts(x);
        return how + " " + Bench.files(x) + (conflicts.isEmpty() ? "" : " | " + conflicts);
    }

    private static void trees() {
        int[][] two = {Bench.row(1, 2, 3, 4), Bench.row(5, 6)};
        Bench.due("trees: gone on both sides", mergedTrees(two, x -> x.drop(0), x -> {
            x.drop(0);
            x.make(4);
        }), "m 1=[5, 6] 4=[]");
        Bench.due("trees: gone on one side, untouched on the other",
                mergedTrees(two, x -> x.drop(0), x -> x.cut(1, 0)), "m 1=[6]");
        Bench.due("trees: gone on theirs, untouched on ours",
                mergedTrees(two, x -> x.cut(1, 0), x -> x.drop(0)), "m 1=[6]");
        Bench.due("trees: gone on ours, changed on theirs",
                mergedTrees(two, x -> x.drop(0), x -> x.cut(0, 0)), "c 0=[2, 3, 4] 1=[5, 6] | d0");
        Bench.due("trees: gone on theirs, changed on ours",
                mergedTrees(two, x -> x.cut(0, 0), x -> x.drop(0)), "c 0=[2, 3, 4] 1=[5, 6] | d0");
        Bench.due("trees: gone on ours, moved on theirs",
                mergedTrees(two, x -> x.drop(0), x -> x.rename(0, 3)), "c 1=[5, 6] 3=[1, 2, 3, 4] | d3");
        Bench.due("trees: new on one side",
                mergedTrees(two, x -> Bench.write(x, 2, 8), x -> x.cut(1, 0)), "m 0=[1, 2, 3, 4] 1=[6] 2=[8]");
        Bench.due("trees: new on both, the same",
                mergedTrees(two, x -> Bench.write(x, 2, 8), x -> {
                    Bench.write(x, 2, 8);
                    x.cut(1, 0);
                }), "m 0=[1, 2, 3, 4] 1=[6] 2=[8]");
        Bench.due("trees: new on both",
                mergedTrees(two, x -> Bench.write(x, 2, 8), x -> Bench.write(x, 2, 9, 8)),
                "c 0=[1, 2, 3, 4] 1=[5, 6] 2=[100, 8, 101, 9, 8, 102] | a2");
        Bench.due("trees: new on both, one empty",
                mergedTrees(two, x -> Bench.write(x, 2), x -> Bench.write(x, 2, 9)),
                "m 0=[1, 2, 3, 4] 1=[5, 6] 2=[9]");
        Bench.due("trees: by rising numbers, old files ahead of new ones",
                mergedTrees(new int[][] {null, Bench.row(5, 6), null, Bench.row(7, 8)}, x -> {
                    Bench.write(x, 0, 1);
                    x.insert(3, 1, 20);
                    x.drop(1);
                }, x -> {
                    Bench.write(x, 0, 2);
                    x.insert(3, 1, 30);
                    x.cut(1, 0);
                }), "c 0=[100, 1, 101, 2, 102] 1=[6] 3=[7, 100, 20, 101, 30, 102, 8] | d1 x3 a0");
    }

    private static void moves() {
        int[][] one = {Bench.row(1, 2, 3, 4)};
        Bench.due("trees: moved on theirs, changed on ours",
                mergedTrees(one, x -> x.cut(0, 0), x -> x.rename(0, 3)), "m 3=[2, 3, 4]");
        Bench.due("trees: moved on ours, changed on theirs",
                mergedTrees(one, x -> x.rename(0, 3), x -> x.cut(0, 0)), "m 3=[2, 3, 4]");
        Bench.due("trees: moved alike on both",
                mergedTrees(one, x -> {
                    x.rename(0, 3);
                    x.cut(3, 0);
                }, x -> {
                    x.rename(0, 3);
                    x.cut(3, 3);
                }), "m 3=[2, 3]");
        Bench.due("trees: moved to unlike files",
                mergedTrees(one, x -> x.rename(0, 3), x -> x.rename(0, 2)), "c 3=[1, 2, 3, 4] | n3");
        Bench.due("trees: unlike files and unlike lines",
                mergedTrees(one, x -> {
                    x.rename(0, 3);
                    x.insert(3, 0, 7);
                }, x -> {
                    x.rename(0, 2);
                    x.insert(2, 0, 8);
                }), "c 3=[100, 7, 101, 8, 102, 1, 2, 3, 4] | n3 x3");
        Bench.due("trees: too unlike for a move",
                mergedTrees(one, x -> {
                    x.drop(0);
                    Bench.write(x, 3, 9, 8);
                }, x -> x.cut(0, 0)), "c 0=[2, 3, 4] 3=[9, 8] | d0");
    }

    private static void twoTextsForOneFile() {
        int[][] two = {Bench.row(1, 2, 3, 4), Bench.row(5, 6, 7, 8)};
        Bench.due("trees: two files moved to one",
                mergedTrees(two, x -> x.rename(0, 3), x -> x.rename(1, 3)),
                "c 3=[100, 1, 2, 3, 4, 101, 5, 6, 7, 8, 102] | p3");
        Bench.due("trees: the same text twice is a conflict too",
                mergedTrees(new int[][] {Bench.row(1, 2), Bench.row(1, 2)}, x -> x.rename(0, 3), x -> x.rename(1, 3)),
                "c 3=[1, 2] | p3");
        Bench.due("trees: a move here, a new file there",
                mergedTrees(two, x -> x.rename(0, 3), x -> Bench.write(x, 3, 60)),
                "c 1=[5, 6, 7, 8] 3=[100, 1, 2, 3, 4, 101, 60, 102] | p3");
        Bench.due("trees: a new file here, a move there: what was there counts as ours",
                mergedTrees(two, x -> Bench.write(x, 3, 60), x -> x.rename(0, 3)),
                "c 1=[5, 6, 7, 8] 3=[100, 1, 2, 3, 4, 101, 60, 102] | p3");
        Bench.due("trees: d ahead of p",
                mergedTrees(two, x -> {
                    x.rename(0, 3);
                    x.drop(1);
                }, x -> x.rename(1, 3)), "c 3=[100, 1, 2, 3, 4, 101, 5, 6, 7, 8, 102] | d3 p3");
        Bench.due("trees: x ahead of p, and marks within marks",
                mergedTrees(two, x -> {
                    x.rename(0, 3);
                    x.insert(1, 0, 40);
                }, x -> {
                    x.rename(1, 3);
                    x.insert(3, 0, 41);
                }), "c 3=[100, 1, 2, 3, 4, 101, 100, 40, 101, 41, 102, 5, 6, 7, 8, 102] | x3 p3");
    }

    private static void bases() {
        // two merges of the same two commits, the other way round: both have the bases 1 and 2
        Patchwright x = Bench.fork(Bench.row(1, 2, 3, 4, 5), Bench.row(1, 2, 3, 4, 5, 6), Bench.row(0, 1, 2, 3, 4, 5));
        x.branch(2);
        x.merge(1, 0);
        x.switchTo(1);
        x.merge(2, 0);
        Bench.due("19 two bases", x.bases(3, 4), 2);
        Bench.save(x, 5, 0, 0, 1, 2, 30, 4, 5, 6);
        x.switchTo(0);
        Bench.save(x, 6, 0, 0, 1, 2, 3, 4, 5, 6, 7);
        Bench.due("bases: merged first", x.merge(1, 7), 'm');
        Bench.due("bases: what came out", Bench.text(x, 0).toString(), "[0, 1, 2, 30, 4, 5, 6, 7]");
        conflictingBases();
        settledBases();
        threeBases();
    }

    /**
     * Commits 3 (of 2 and 1, on branch 0) and 4 (of 1 and 2, on branch 1, the present one) with the bases 1 and 2,
     * which have 21 and 20 at the same place.
     */
    private static Patchwright crossed(boolean byHand) {
        Patchwright x = Bench.fork(Bench.row(1, 2, 3), Bench.row(1, 20, 3), Bench.row(1, 21, 3));
        x.branch(2);
        x.merge(1, 0);
        if (byHand) {
            Bench.write(x, 0, 1, 20, 3);
        } else {
            x.settle(0, 'o');
        }
        x.stage(0);
        x.commit(3);
        x.switchTo(1);
        x.merge(2, 0);
        if (byHand) {
            Bench.write(x, 0, 1, 21, 3);
        } else {
            x.settle(0, 't');
        }
        x.stage(0);
        x.commit(4);
        return x;
    }

    private static void conflictingBases() {
        Patchwright x = crossed(true);
        Bench.due("bases: settled here to 20, there to 21", Bench.filesOf(x, 3) + Bench.filesOf(x, 4),
                "0=[1, 20, 3]0=[1, 21, 3]");
        Bench.due("bases: in conflict, so that the base has marks", x.merge(0, 5), 'c');
        Bench.due("bases: both sides differ from the marks", Bench.text(x, 0).toString(),
                "[1, 100, 21, 101, 20, 102, 3]");
        Bench.due("bases: their conflicts are not told", Bench.conflicts(x), "x0");
    }

    private static void settledBases() {
        Patchwright x = crossed(false);
        Bench.save(x, 5, 0, 1, 21, 20, 3);
        Bench.due("bases: two pairs are settled", x.remembered(), 2);
        // were the base settled to 20 too, it would be theirs, and ours would be taken; but it has marks, so that
        // 1, 20 and 3 are firm, and ahead of 20 stands 100 21 101 in the base, 21 in ours, nothing in theirs
        Bench.due("bases: nothing counts as settled below", x.merge(0, 5), 'c');
        Bench.due("bases: so the part is in conflict", Bench.text(x, 0).toString(), "[1, 100, 21, 101, 102, 20, 3]");
    }

    private static void threeBases() {
        Patchwright x = Bench.store(1, 2, 3, 4, 5, 6, 7, 8, 9);
        for (int b = 1; b < 4; b++) {
            x.branch(b);
        }
        for (int b = 1; b < 4; b++) {
            x.switchTo(b);
            x.cut(0, 2 * b);
            x.insert(0, 2 * b, 30 + b);
            Bench.saveAll(x, b);
        }
        x.branch(4);
        x.branch(5);
        for (int b = 4; b < 6; b++) {
            x.switchTo(b);
            x.merge(b == 4 ? 1 : 2, 0);
            x.merge(b == 4 ? 2 : 1, 0);
        }
        Bench.due("19 three bases", x.bases(x.headOf(4), x.headOf(5)), 3);
        Bench.save(x, 9, 0, 1, 2, 31, 4, 32, 6, 7, 8, 9);
        x.switchTo(4);
        // of the three bases the third one, which made 33 of 7, is left out: in the base tree 7 stands yet
        Bench.due("bases: the first two alone", x.merge(5, 0) + " " + Bench.text(x, 0),
                "m [1, 2, 31, 4, 32, 6, 33, 8, 9]");
    }

    private static void pick() {
        Patchwright x = Bench.fork(Bench.row(1, 2, 3), Bench.row(1, 2, 3, 4), Bench.row(0, 1, 2, 3));
        Bench.fails("29 no such commit", MISSING, x, () -> x.pick(3));
        Bench.fails("29 no such commit below", MISSING, x, () -> x.pick(-1));
        Bench.due("29 picked", x.pick(1), 'm');
        Bench.due("29 its label", x.label(3), 1);
        Bench.due("29 the head is its parent", x.parent(3, 0), 2);
        Bench.fails("29 the only one", MISSING, x, () -> x.parent(3, 1));
        Bench.due("29 tree", Bench.files(x), "0=[0, 1, 2, 3, 4]");
        Bench.due("29 again: nothing new", x.pick(2), 'e');
        Bench.due("29 no commit for that", x.headOf(0), 3);
        x.cut(0, 0);
        Bench.fails("29 not clean", STATE, x, () -> x.pick(1));
        Bench.fails("29 no such commit, not clean", MISSING, x, () -> x.pick(9));
        x.restore(0);
        Bench.due("29 the first one of all has no base", x.pick(0), 'c');
        Bench.due("29 so its files are new", Bench.conflicts(x), "a0");
        Bench.due("29 ours is the head", Bench.text(x, 0).toString(),
                "[100, 0, 1, 2, 3, 4, 101, 1, 2, 3, 102]");
        Bench.due("32 a pick", x.waits(), 'p');
        Patchwright y = Bench.fork(Bench.row(1, 2, 3), Bench.row(1, 2, 3, 4), Bench.row(0, 1, 2, 3));
        y.merge(1, 5);
        y.switchTo(1);
        Bench.due("29 a merge is picked against its first parent", y.pick(3), 'e');
    }

    private static void takeBack() {
        Patchwright x = Bench.store(1, 2, 3);
        Bench.save(x, 1, 0, 1, 2, 3, 4);
        Bench.save(x, 2, 0, 0, 1, 2, 3, 4);
        Bench.fails("30 no such commit", MISSING, x, () -> x.takeBack(3, -1));
        Bench.fails("30 no such commit below", MISSING, x, () -> x.takeBack(-1, 0));
        Bench.fails("30 label", ARGUMENT, x, () -> x.takeBack(1, -1));
        Bench.due("30 taken back", x.takeBack(1, 33), 'm');
        Bench.due("30 tree", Bench.files(x), "0=[0, 1, 2, 3]");
        Bench.due("30 label and parent", x.label(3) * 10 + x.parent(3, 0), 332);
        Bench.due("30 again: nothing new", x.takeBack(1, 34), 'e');
        x.cut(0, 0);
        Bench.fails("30 label, not clean", ARGUMENT, x, () -> x.takeBack(1, -1));
        Bench.fails("30 not clean", STATE, x, () -> x.takeBack(1, 0));
        x.restore(0);
        Bench.due("30 the first one: no files are theirs", x.takeBack(0, 0), 'c');
        Bench.due("30 the changed file", Bench.conflicts(x), "d0");
        Bench.due("32 a taking back", x.waits(), 't');
        Patchwright y = Bench.store(1, 2, 3);
        Bench.due("30 the only one", y.takeBack(0, 6), 'm');
        Bench.due("30 nothing is left", Bench.files(y), "");
    }

    private static void waiting() {
        Patchwright x = Bench.fork(Bench.row(1, 2, 3), Bench.row(4, 2, 5), Bench.row(6, 2, 7));
        Bench.due("32 nothing", x.waits(), '-');
        Bench.due("34 none", x.conflicts(), 0);
        Bench.fails("33 nothing waits", STATE, x, () -> x.giveUp());
        Bench.fails("35 nothing waits", MISSING, x, () -> x.kindOf(0));
        Bench.fails("36 nothing waits", MISSING, x, () -> x.fileOf(0));
        Bench.due("28 conflict", x.merge(1, 0), 'c');
        Bench.due("28 no commit", x.commits(), 3);
        Bench.due("32 a merge", x.waits(), 'm');
        Bench.due("34 one for a file", x.conflicts(), 1);
        Bench.due("35 kind", x.kindOf(0), 'x');
        Bench.due("36 file", x.fileOf(0), 0);
        Bench.fails("35 above", MISSING, x, () -> x.kindOf(1));
        Bench.fails("35 below", MISSING, x, () -> x.kindOf(-1));
        Bench.fails("36 above", MISSING, x, () -> x.fileOf(1));
        Bench.fails("36 below", MISSING, x, () -> x.fileOf(-1));
        Bench.due("28 the index has it too", x.change(0) + "" + x.staged(0), "-c");
        x.settle(0, 'o');
        Bench.due("34 as they were found", x.conflicts(), 1);
        x.make(5);
        Bench.due("33 given up", x.giveUp(), 1);
        Bench.due("33 the head's tree", Bench.files(x), "0=[4, 2, 5]");
        Bench.due("33 the index too", x.staged(0), '-');
        Bench.due("33 nothing waits", x.waits(), '-');
        Bench.due("34 none any more", x.conflicts(), 0);
        Bench.due("38 what was settled stays", x.remembered(), 1);
        Bench.fails("33 twice", STATE, x, () -> x.giveUp());
    }

    private static void settle() {
        Patchwright x = Bench.fork(Bench.row(1, 2, 3), Bench.row(4, 2, 5), Bench.row(6, 2, 7));
        Bench.fails("37 no region", UNSUPPORTED, x, () -> x.settle(0, 'o'));
        x.merge(1, 0);
        Bench.fails("37 number", RANGE, x, () -> x.settle(6, 'q'));
        Bench.fails("37 number below", RANGE, x, () -> x.settle(-1, 'o'));
        Bench.fails("37 missing", MISSING, x, () -> x.settle(1, 'q'));
        Bench.fails("37 way", ARGUMENT, x, () -> x.settle(0, 'q'));
        Bench.fails("37 way above", ARGUMENT, x, () -> x.settle(0, (char) 65535));
        Bench.due("37 ours, the first region", x.settle(0, 'o'), 7);
        Bench.due("37 lines", Bench.text(x, 0).toString(), "[4, 2, 100, 5, 101, 7, 102]");
        Bench.due("37 the index stays", x.change(0), 'c');
        Bench.due("37 theirs", x.settle(0, 't'), 3);
        Bench.due("37 lines again", Bench.text(x, 0).toString(), "[4, 2, 7]");
        Bench.due("38 two pairs", x.remembered(), 2);
        Bench.fails("37 no region any more", UNSUPPORTED, x, () -> x.settle(0, 'o'));
        Bench.fails("37 way ahead of region", ARGUMENT, x, () -> x.settle(0, (char) 0));
        x.restore(0);
        Bench.due("37 both", x.settle(0, 'b'), 8);
        Bench.due("37 ours and behind it theirs", Bench.text(x, 0).toString(), "[4, 6, 2, 100, 5, 101, 7, 102]");
        Bench.due("38 in place of the earlier one", x.remembered(), 2);
        Bench.due("37 nothing", x.settle(0, 'n'), 3);
        Bench.due("37 nothing is left of it", Bench.text(x, 0).toString(), "[4, 6, 2]");
        x.restore(0);
        x.cut(0, 4);
        // 100 4 101 6 2 100 5 101 7 102: theirs goes up to the next 102, over the 100 and the 101
        Bench.due("37 up to the next 102", x.settle(0, 't'), 6);
        Bench.due("37 over other marks", Bench.text(x, 0).toString(), "[6, 2, 100, 5, 101, 7]");
        Bench.fails("37 no 102 behind", UNSUPPORTED, x, () -> x.settle(0, 'o'));
        x.cut(0, 4);
        Bench.fails("37 no 101 behind", UNSUPPORTED, x, () -> x.settle(0, 'o'));
        Bench.due("38 a third pair", x.remembered(), 3);
        Patchwright y = Bench.fork(Bench.row(1, 2, 3), Bench.row(1, 3), Bench.row(1, 8, 3));
        y.merge(1, 0);
        Bench.due("37 a part of ours without lines", y.settle(0, 'b') + " " + Bench.text(y, 0), "3 [1, 8, 3]");
        y.giveUp();
        y.switchTo(1);
        y.merge(0, 0);
        Bench.due("37 a part of theirs without lines", y.settle(0, 't') + " " + Bench.text(y, 0), "2 [1, 3]");
        Bench.due("38 with and without", y.remembered(), 2);
    }

    private static void settledAgain() {
        Patchwright x = Bench.fork(Bench.row(1, 2, 3), Bench.row(4, 2, 5), Bench.row(6, 2, 7));
        x.merge(1, 0);
        x.settle(0, 'b');
        x.giveUp();
        Bench.due("38 half is settled", x.merge(1, 0) + " " + Bench.text(x, 0), "c [4, 6, 2, 100, 5, 101, 7, 102]");
        x.settle(0, 'n');
        x.giveUp();
        Bench.due("38 all is settled", x.merge(1, 0) + " " + Bench.text(x, 0), "m [4, 6, 2]");
        x.reset(2);
        x.pick(1);
        Bench.due("38 picks too", Bench.text(x, 0).toString(), "[4, 6, 2]");
        x.switchTo(1);
        x.branch(3);
        x.switchTo(3);
        x.branch(4);
        x.switchTo(0);
        x.reset(2);
        x.switchTo(3);
        Bench.due("38 the other way round is another pair", x.merge(0, 0), 'c');
        Bench.due("38 with theirs as ours", Bench.text(x, 0).toString(),
                "[100, 6, 101, 4, 102, 2, 100, 7, 101, 5, 102]");
        newFiles();
    }

    private static void newFiles() {
        Patchwright x = sides(new int[][] {Bench.row(1)}, y -> Bench.write(y, 2, 8), y -> Bench.write(y, 2, 9));
        x.merge(1, 0);
        x.settle(2, 't');
        x.giveUp();
        Bench.due("38 new files too", x.merge(1, 0) + " " + Bench.text(x, 2), "m [9]");
        Patchwright z = sides(new int[][] {Bench.row(1, 2), Bench.row(3, 4)}, y -> y.rename(0, 3),
                y -> y.rename(1, 3));
        z.merge(1, 0);
        z.settle(3, 'b');
        z.giveUp();
        Bench.due("38 a second text for a file: a conflict whatever comes out", z.merge(1, 0), 'c');
        Bench.due("38 though settled", Bench.text(z, 3) + " " + Bench.conflicts(z), "[1, 2, 3, 4] p3");
    }

    private static void longTexts() {
        int[] ours = Bench.count(0, 40);
        int[] theirs = Bench.count(50, 40);
        Patchwright x = sides(new int[][] {Bench.row(1)}, y -> Bench.write(y, 2, ours), y -> Bench.write(y, 2, theirs));
        Bench.due("28 long", x.merge(1, 0), 'c');
        Bench.due("28 longer than what is inserted", x.lines(2), 83);
        Bench.due("37 all of it", x.settle(2, 'b'), 80);
        Bench.fails("3 more than 40", STATE, x, () -> x.insert(2, 0, 1));
        x.stage(2);
        Bench.due("13 long", x.commit(3), 3);
        Bench.due("20 long", x.matched(3, 2, 2), 40);
        Bench.due("39 long", x.blame(2, 79), 1);
        Bench.due("47 long", x.share(2), 40f / 81f);
        Bench.due("49 long", x.isSound(), true);
        longerAndLonger();
    }

    /** File 0 becomes itself less its first line, and behind that itself: 5 commits. */
    private static char twice(Patchwright x, String name, List<Integer> due) {
        x.rename(0, 1);
        x.restore(0);
        x.cut(0, 0);
        Bench.saveAll(x, 1);
        x.branch(1);
        x.rename(0, 2);
        Bench.saveAll(x, 2);
        x.switchTo(1);
        x.rename(1, 2);
        Bench.saveAll(x, 3);
        Bench.due(name + " merged", x.merge(0, 4), 'c');
        x.settle(2, 'b');
        x.rename(2, 0);
        Bench.saveAll(x, 5);
        x.unbranch(0);
        x.branch(0);
        x.switchTo(0);
        x.unbranch(1);
        due.addAll(0, new ArrayList<>(due.subList(1, due.size())));
        Bench.due(name, Bench.text(x, 0).equals(due), true);
        return x.waits();
    }

    private static void longerAndLonger() {
        int[] lines = new int[40];
        List<Integer> due = new ArrayList<>();
        for (int i = 0; i < 40; i++) {
            lines[i] = i * i % 17;
            due.add(lines[i]);
        }
        Patchwright x = Bench.store(lines);
        for (int round = 0; round < 4; round++) {
            twice(x, "28 longer and longer " + round, due);
        }
        int last = x.headOf(0);
        Bench.due("20 the longest common row", x.matched(last, last - 5, 0), x.linesOf(last - 5, 0));
        for (int i = 0; i < 3; i++) {
            x.cut(0, 5 + 90 * i);
        }
        Bench.saveAll(x, 9);
        Bench.due("20 but three", x.matched(last, last + 1, 0), due.size() - 3);
        Bench.due("39 a long text", x.blame(0, due.size() - 4) <= last, true);
        Bench.due("49 a long text", x.isSound(), true);
    }

    private static void fullStore() {
        Patchwright x = Bench.fork(Bench.row(1, 2, 3), Bench.row(1, 2, 3, 4), Bench.row(0, 1, 2, 3));
        while (x.commits() < 59) {
            int files = x.change(5) == '-' && x.commits() % 2 == 1 ? 5 : 4;
            Bench.save(x, 0, files, x.commits());
        }
        Bench.due("28 the 60th", x.merge(1, 0), 'm');
        Bench.fails("28 60 commits were made", STATE, x, () -> x.merge(1, 0));
        Bench.fails("28 60 were made, label first", ARGUMENT, x, () -> x.merge(1, -1));
        Bench.fails("29 60 commits were made", STATE, x, () -> x.pick(1));
        Bench.fails("30 60 commits were made", STATE, x, () -> x.takeBack(1, 0));
        Bench.fails("30 60 were made, label first", ARGUMENT, x, () -> x.takeBack(1, -1));
    }
}
