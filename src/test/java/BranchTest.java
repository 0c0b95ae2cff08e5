import java.util.NoSuchElementException;

/** Promises 22 to 27 and 43: branches, their logs, and what they hold when commits are collected. */
final class BranchTest {
    private static final Class<IndexOutOfBoundsException> RANGE = IndexOutOfBoundsException.class;
    private static final Class<NoSuchElementException> MISSING = NoSuchElementException.class;
    private static final Class<IllegalStateException> STATE = IllegalStateException.class;

    public static void main(String[] args) {
        branch();
        switchTo();
        unbranch();
        reset();
        headAndLog();
        collect();
        collectWhatWaits();
        Bench.close("BranchTest");
    }

    private static void branch() {
        Patchwright x = new Patchwright();
        Bench.fails("22 there, being present", STATE, x, () -> x.branch(0));
        Bench.fails("22 no head", STATE, x, () -> x.branch(1));
        Bench.fails("22 number", RANGE, x, () -> x.branch(6));
        Bench.fails("22 number below", RANGE, x, () -> x.branch(-1));
        Bench.save(x, 0, 0, 1);
        Bench.due("22 second", x.branch(5), 2);
        Bench.due("22 third", x.branch(2), 3);
        Bench.due("22 at the head", x.headOf(5), 0);
        Bench.due("22 the present one stays", x.switchTo(0), 0);
        Bench.due("22 its log", x.logAt(5, 0), 0);
        Bench.fails("22 there", STATE, x, () -> x.branch(5));
        Bench.fails("22 the present one is there", STATE, x, () -> x.branch(0));
        Patchwright y = Bench.fork(Bench.row(1), Bench.row(2), Bench.row(3));
        y.merge(1, 0);
        Bench.due("22 though something waits", y.branch(3), 3);
    }

    private static void switchTo() {
        Patchwright x = Bench.store(1);
        x.branch(1);
        Bench.due("23 before", x.switchTo(1), 0);
        Bench.save(x, 1, 2, 5);
        Bench.due("23 back", x.switchTo(0), 1);
        Bench.due("23 its tree", Bench.files(x), "0=[1]");
        Bench.due("23 its index", x.change(2), '-');
        Bench.due("23 again", x.switchTo(1), 0);
        Bench.due("23 its tree again", Bench.files(x), "0=[1] 2=[5]");
        Bench.fails("23 number", RANGE, x, () -> x.switchTo(6));
        Bench.fails("23 number below", RANGE, x, () -> x.switchTo(-1));
        Bench.fails("23 missing", MISSING, x, () -> x.switchTo(4));
        x.cut(0, 0);
        Bench.fails("23 working copy", STATE, x, () -> x.switchTo(0));
        Bench.fails("23 missing, not clean", MISSING, x, () -> x.switchTo(4));
        x.stage(0);
        Bench.fails("23 index", STATE, x, () -> x.switchTo(0));
        Bench.fails("23 to the present one", STATE, x, () -> x.switchTo(1));
        x.insert(0, 0, 1);
        Bench.fails("23 index alone", STATE, x, () -> x.switchTo(0));
        x.stage(0);
        Bench.due("23 clean again", x.switchTo(0), 1);
        Patchwright y = Bench.fork(Bench.row(1), Bench.row(2), Bench.row(3));
        y.merge(1, 0);
        y.settle(0, 'o');
        y.stage(0);
        Bench.fails("23 waits, though clean", STATE, y, () -> y.switchTo(1));
    }

    private static void unbranch() {
        Patchwright x = Bench.store(1);
        x.branch(1);
        x.branch(2);
        Bench.fails("24 number", RANGE, x, () -> x.unbranch(6));
        Bench.fails("24 number below", RANGE, x, () -> x.unbranch(-1));
        Bench.fails("24 missing", MISSING, x, () -> x.unbranch(3));
        Bench.fails("24 present", STATE, x, () -> x.unbranch(0));
        Bench.due("24 left", x.unbranch(1), 2);
        Bench.fails("24 gone", MISSING, x, () -> x.headOf(1));
        Bench.fails("24 its log too", MISSING, x, () -> x.logAt(1, 0));
        Bench.fails("24 twice", MISSING, x, () -> x.unbranch(1));
        Bench.save(x, 1, 0, 2);
        Bench.due("24 made anew", x.branch(1), 3);
        Bench.due("24 with a log of its own", x.logAt(1, 0), 1);
        Bench.fails("24 without the old one", MISSING, x, () -> x.logAt(1, 1));
        x.switchTo(2);
        Bench.due("24 branch 0 too", x.unbranch(0), 2);
        Bench.fails("24 branch 0 is gone", MISSING, x, () -> x.logAt(0, 0));
        Patchwright y = new Patchwright();
        Bench.fails("24 present without a commit", STATE, y, () -> y.unbranch(0));
        Bench.fails("24 missing without a commit", MISSING, y, () -> y.unbranch(1));
    }

    private static void reset() {
        Patchwright x = new Patchwright();
        Bench.fails("25 no commit", MISSING, x, () -> x.reset(0));
        Bench.save(x, 0, 0, 1);
        Bench.save(x, 1, 0, 2);
        x.make(4);
        x.stage(4);
        x.cut(0, 0);
        Bench.fails("25 no such commit", MISSING, x, () -> x.reset(2));
        Bench.fails("25 no such commit below", MISSING, x, () -> x.reset(-1));
        Bench.due("25 the head before", x.reset(0), 1);
        Bench.due("25 the working copy", Bench.files(x), "0=[1]");
        Bench.due("25 the index", x.staged(4), '-');
        Bench.due("25 head", x.headOf(0), 0);
        Bench.due("25 forwards", x.reset(1), 0);
        x.cut(0, 0);
        Bench.due("25 to the same one", x.reset(1), 1);
        Bench.due("25 takes the tree all the same", Bench.files(x), "0=[2]");
        Bench.due("25 no log entry for its own commit", x.logAt(0, 1), 0);
        Patchwright y = Bench.fork(Bench.row(1), Bench.row(2), Bench.row(3));
        y.merge(1, 0);
        Bench.due("25 while something waits", y.reset(0), 2);
        Bench.due("25 nothing waits", y.waits(), '-');
        Bench.due("25 no conflicts", y.conflicts(), 0);
        Bench.due("25 unmarked", Bench.files(y), "0=[1]");
    }

    private static void headAndLog() {
        Patchwright x = new Patchwright();
        Bench.fails("26 none", MISSING, x, () -> x.headOf(0));
        Bench.fails("27 none", MISSING, x, () -> x.logAt(0, 0));
        Bench.save(x, 0, 0, 1);
        Bench.save(x, 1, 0, 2);
        Bench.save(x, 2, 0, 3);
        x.branch(1);
        x.reset(0);
        Bench.due("26 head", x.headOf(0), 0);
        Bench.due("26 other", x.headOf(1), 2);
        Bench.fails("26 number", RANGE, x, () -> x.headOf(6));
        Bench.fails("26 number below", RANGE, x, () -> x.headOf(-1));
        Bench.fails("26 missing", MISSING, x, () -> x.headOf(2));
        Bench.due("27 latest", x.logAt(0, 0), 0);
        Bench.due("27 before", x.logAt(0, 1), 2);
        Bench.due("27 before that", x.logAt(0, 2), 1);
        Bench.due("27 first", x.logAt(0, 3), 0);
        Bench.due("27 of the other one", x.logAt(1, 0), 2);
        Bench.fails("27 other has one", MISSING, x, () -> x.logAt(1, 1));
        Bench.fails("27 number", RANGE, x, () -> x.logAt(6, 0));
        Bench.fails("27 number below", RANGE, x, () -> x.logAt(-1, 0));
        Bench.fails("27 missing", MISSING, x, () -> x.logAt(2, 0));
        Bench.fails("27 place", MISSING, x, () -> x.logAt(0, 4));
        Bench.fails("27 place below", MISSING, x, () -> x.logAt(0, -1));
        x.merge(1, 0);
        Bench.due("27 a merge that goes forwards", x.logAt(0, 0), 2);
        for (int i = 0; i < 400; i++) {
            x.reset(i % 2);
        }
        Bench.due("27 a long log, latest", x.logAt(0, 0), 1);
        Bench.due("27 a long log, first", x.logAt(0, 404), 0);
        Bench.due("27 a long log, third", x.logAt(0, 402), 2);
        Bench.fails("27 a long log, beyond", MISSING, x, () -> x.logAt(0, 405));
    }

    private static void collect() {
        Patchwright x = Bench.store(1);
        Bench.due("43 nothing", x.collect(), 0);
        x.branch(1);
        x.switchTo(1);
        Bench.save(x, 1, 0, 2);
        Bench.save(x, 2, 0, 3);
        x.switchTo(0);
        Bench.due("43 a branch holds", x.collect(), 0);
        Bench.save(x, 3, 0, 4);
        Bench.save(x, 4, 0, 5);
        x.reset(0);
        Bench.due("43 the log's last three hold", x.collect(), 0);
        x.reset(1);
        Bench.due("43 still", x.collect(), 0);
        x.reset(0);
        Bench.due("43 now the two are out of the last three", x.collect(), 2);
        Bench.due("43 left", x.commits(), 3);
        x.reset(1);
        x.search(0, 1);
        Bench.due("40 one candidate", x.tell(1, 'b'), 1);
        x.collect();
        Bench.fails("43 a search ends", MISSING, x, () -> x.tell(1, 'b'));
        x.unbranch(1);
        Bench.due("43 without its branch", x.collect(), 1);
        Bench.due("49 sound, though the log's older entries are collected", x.isSound(), true);
        Bench.due("27 they stand in the log", x.logAt(0, 3) + " " + x.logAt(0, 5), "0 3");
        Bench.fails("44 and are collected", MISSING, x, () -> x.label(3));
    }

    private static void collectWhatWaits() {
        Patchwright x = Bench.fork(Bench.row(1), Bench.row(2), Bench.row(3));
        x.merge(1, 0);
        x.unbranch(1);
        Bench.due("43 the other parent waits", x.collect(), 0);
        x.giveUp();
        Bench.due("43 it waits no more", x.collect(), 1);
        Patchwright y = Bench.fork(Bench.row(1), Bench.row(2), Bench.row(3));
        y.pick(1);
        y.unbranch(1);
        Bench.due("43 a pick that waits does not hold", y.collect(), 1);
        y.settle(0, 't');
        y.stage(0);
        Bench.due("13 its label is kept", y.label(y.commit(77)), 1);
    }
}
