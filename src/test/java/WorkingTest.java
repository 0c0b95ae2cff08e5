import java.util.NoSuchElementException;

/** Promises 1 to 12: a new object, the working copy and the index. */
final class WorkingTest {
    private static final Class<IndexOutOfBoundsException> RANGE = IndexOutOfBoundsException.class;
    private static final Class<NoSuchElementException> MISSING = NoSuchElementException.class;
    private static final Class<IllegalArgumentException> ARGUMENT = IllegalArgumentException.class;
    private static final Class<IllegalStateException> STATE = IllegalStateException.class;

    public static void main(String[] args) {
        newObject();
        make();
        insert();
        cut();
        drop();
        rename();
        stage();
        restore();
        changeAndStaged();
        linesAndLineAt();
        Bench.close("WorkingTest");
    }

    private static void newObject() {
        Patchwright x = new Patchwright();
        Bench.due("1 commits", x.commits(), 0);
        Bench.due("1 files", Bench.files(x), "");
        Bench.due("1 waits", x.waits(), '-');
        Bench.fails("1 no head", MISSING, x, () -> x.headOf(0));
        Bench.due("1 present branch", x.switchTo(0), 0);
        Bench.fails("1 no other branch", MISSING, x, () -> x.switchTo(1));
        for (int f = 0; f < 6; f++) {
            Bench.due("1 change " + f, x.change(f), '-');
            Bench.due("1 staged " + f, x.staged(f), '-');
        }
    }

    private static void make() {
        Patchwright x = new Patchwright();
        Bench.due("2 make", x.make(5), 1);
        Bench.due("2 make another", x.make(0), 2);
        Bench.due("2 empty", x.lines(5), 0);
        Bench.due("2 the index has it not", x.change(5), 'n');
        Bench.fails("2 below", RANGE, x, () -> x.make(-1));
        Bench.fails("2 above", RANGE, x, () -> x.make(6));
        Bench.fails("2 far", RANGE, x, () -> x.make(Integer.MIN_VALUE));
        Bench.fails("2 there", STATE, x, () -> x.make(0));
    }

    private static void insert() {
        Patchwright x = new Patchwright();
        x.make(1);
        Bench.due("3 first", x.insert(1, 0, 99), 1);
        Bench.due("3 behind", x.insert(1, 1, 0), 2);
        Bench.due("3 between", x.insert(1, 1, 50), 3);
        Bench.due("3 ahead", x.insert(1, 0, 7), 4);
        Bench.due("3 lines", Bench.text(x, 1).toString(), "[7, 99, 50, 0]");
        Bench.fails("3 file", RANGE, x, () -> x.insert(6, 9, 100));
        Bench.fails("3 file below", RANGE, x, () -> x.insert(-1, 0, 0));
        Bench.fails("3 missing", MISSING, x, () -> x.insert(0, 9, 100));
        Bench.fails("3 place above", ARGUMENT, x, () -> x.insert(1, 5, 0));
        Bench.fails("3 place below", ARGUMENT, x, () -> x.insert(1, -1, 0));
        Bench.fails("3 line above", ARGUMENT, x, () -> x.insert(1, 0, 100));
        Bench.fails("3 line below", ARGUMENT, x, () -> x.insert(1, 0, -1));
        for (int i = 4; i < 40; i++) {
            Bench.due("3 up to 40", x.insert(1, i, i), i + 1);
        }
        Bench.fails("3 full", STATE, x, () -> x.insert(1, 0, 1));
        Bench.fails("3 full and wrong", ARGUMENT, x, () -> x.insert(1, 0, 100));
        Bench.fails("3 full and no place", ARGUMENT, x, () -> x.insert(1, 41, 0));
        x.cut(1, 0);
        Bench.due("3 room again", x.insert(1, 39, 1), 40);
    }

    private static void cut() {
        Patchwright x = Bench.store(1, 2, 3);
        Bench.due("4 cut", x.cut(0, 1), 2);
        Bench.due("4 lines", Bench.text(x, 0).toString(), "[1, 3]");
        Bench.due("4 last", x.cut(0, 1), 3);
        Bench.fails("4 file", RANGE, x, () -> x.cut(6, 0));
        Bench.fails("4 file below", RANGE, x, () -> x.cut(-1, 0));
        Bench.fails("4 missing", MISSING, x, () -> x.cut(1, 0));
        Bench.fails("4 no such line", MISSING, x, () -> x.cut(0, 1));
        Bench.fails("4 no such line below", MISSING, x, () -> x.cut(0, -1));
        Bench.due("4 only one", x.cut(0, 0), 1);
        Bench.due("4 is still there", x.lines(0), 0);
        Patchwright y = Bench.fork(Bench.row(1), Bench.row(2), Bench.row(3));
        y.merge(1, 0);
        Bench.due("4 also a mark", y.cut(0, 0), 100);
        Bench.due("4 also a mark, the last", y.cut(0, 3), 102);
    }

    private static void drop() {
        Patchwright x = Bench.store(1, 2, 3);
        Bench.fails("5 file", RANGE, x, () -> x.drop(6));
        Bench.fails("5 file below", RANGE, x, () -> x.drop(-1));
        Bench.fails("5 missing", MISSING, x, () -> x.drop(1));
        Bench.due("5 drop", x.drop(0), 3);
        Bench.due("5 gone", x.change(0), 'g');
        Bench.fails("5 twice", MISSING, x, () -> x.drop(0));
        Bench.due("5 the commit has it", x.linesOf(0, 0), 3);
    }

    private static void rename() {
        Patchwright x = Bench.store(1, 2, 3);
        x.make(4);
        Bench.fails("6 file", RANGE, x, () -> x.rename(6, 1));
        Bench.fails("6 other", RANGE, x, () -> x.rename(1, 6));
        Bench.fails("6 other below", RANGE, x, () -> x.rename(0, -1));
        Bench.fails("6 missing", MISSING, x, () -> x.rename(1, 4));
        Bench.fails("6 there", STATE, x, () -> x.rename(0, 4));
        Bench.fails("6 itself", STATE, x, () -> x.rename(0, 0));
        Bench.due("6 rename", x.rename(0, 5), 3);
        Bench.due("6 files", Bench.files(x), "4=[] 5=[1, 2, 3]");
        Bench.due("6 in the index", x.change(0), 'g');
    }

    private static void stage() {
        Patchwright x = new Patchwright();
        Bench.fails("7 file", RANGE, x, () -> x.stage(6));
        Bench.fails("7 file below", RANGE, x, () -> x.stage(-1));
        Bench.due("7 nothing", x.stage(0), false);
        x.make(0);
        Bench.due("7 new", x.stage(0), true);
        Bench.due("7 again", x.stage(0), false);
        x.insert(0, 0, 1);
        Bench.due("7 text", x.stage(0), true);
        Bench.due("7 no difference", x.change(0), '-');
        x.cut(0, 0);
        x.insert(0, 0, 1);
        Bench.due("7 the same text", x.stage(0), false);
        x.drop(0);
        Bench.due("7 gone", x.stage(0), true);
        Bench.due("7 index without it", x.staged(0), '-');
        Bench.due("7 gone again", x.stage(0), false);
        x.make(1);
        x.make(2);
        x.stage(1);
        Bench.due("7 that file alone", x.change(2), 'n');
    }

    private static void restore() {
        Patchwright x = Bench.store(1, 2);
        Bench.fails("8 file", RANGE, x, () -> x.restore(6));
        Bench.fails("8 file below", RANGE, x, () -> x.restore(-1));
        Bench.due("8 nothing", x.restore(0), false);
        x.cut(0, 0);
        Bench.due("8 text", x.restore(0), true);
        Bench.due("8 lines", Bench.text(x, 0).toString(), "[1, 2]");
        x.drop(0);
        Bench.due("8 back", x.restore(0), true);
        Bench.due("8 is back", x.lines(0), 2);
        x.make(3);
        Bench.due("8 also that it is not there", x.restore(3), true);
        Bench.due("8 files", Bench.files(x), "0=[1, 2]");
        x.cut(0, 0);
        x.stage(0);
        Bench.due("8 from the index, not the head", x.restore(0), false);
        Bench.due("8 as staged", Bench.text(x, 0).toString(), "[2]");
    }

    private static void changeAndStaged() {
        Patchwright x = Bench.store(1, 2);
        Bench.fails("9 file", RANGE, x, () -> x.change(6));
        Bench.fails("9 file below", RANGE, x, () -> x.change(-1));
        Bench.fails("10 file", RANGE, x, () -> x.staged(6));
        Bench.fails("10 file below", RANGE, x, () -> x.staged(-1));
        Bench.due("9 not", x.change(0), '-');
        Bench.due("9 neither has it", x.change(1), '-');
        x.make(1);
        Bench.due("9 new", x.change(1), 'n');
        x.insert(0, 2, 3);
        Bench.due("9 another text", x.change(0), 'c');
        Bench.due("10 not yet", x.staged(0), '-');
        x.stage(0);
        x.stage(1);
        Bench.due("9 staged", x.change(0), '-');
        Bench.due("10 another text", x.staged(0), 'c');
        Bench.due("10 new", x.staged(1), 'n');
        x.drop(0);
        Bench.due("9 gone", x.change(0), 'g');
        x.stage(0);
        Bench.due("10 gone", x.staged(0), 'g');
        x.commit(1);
        Bench.due("10 committed", x.staged(0), '-');
        Bench.due("10 committed new", x.staged(1), '-');
    }

    private static void linesAndLineAt() {
        Patchwright x = Bench.store(4, 5);
        Bench.due("11 lines", x.lines(0), 2);
        Bench.due("12 line", x.lineAt(0, 1), 5);
        Bench.due("12 first line", x.lineAt(0, 0), 4);
        Bench.fails("11 file", RANGE, x, () -> x.lines(6));
        Bench.fails("11 file below", RANGE, x, () -> x.lines(-1));
        Bench.fails("11 missing", MISSING, x, () -> x.lines(5));
        Bench.fails("12 file", RANGE, x, () -> x.lineAt(6, 0));
        Bench.fails("12 file below", RANGE, x, () -> x.lineAt(-1, 0));
        Bench.fails("12 missing", MISSING, x, () -> x.lineAt(1, 0));
        Bench.fails("12 place", MISSING, x, () -> x.lineAt(0, 2));
        Bench.fails("12 place below", MISSING, x, () -> x.lineAt(0, -1));
    }
}
