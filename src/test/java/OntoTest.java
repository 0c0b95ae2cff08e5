import java.util.NoSuchElementException;

/** Promise 31: putting the present branch onto another one. */
final class OntoTest {
    private static final Class<IndexOutOfBoundsException> RANGE = IndexOutOfBoundsException.class;
    private static final Class<NoSuchElementException> MISSING = NoSuchElementException.class;
    private static final Class<IllegalStateException> STATE = IllegalStateException.class;

    public static void main(String[] args) {
        putOnto();
        forwards();
        errors();
        leftOut();
        withoutMerges();
        conflict();
        settled();
        tooMany();
        Bench.close("OntoTest");
    }

    private static void putOnto() {
        Patchwright x = Bench.fork(Bench.row(1, 2, 3), Bench.row(1, 2, 3, 4), Bench.row(0, 1, 2, 3));
        Bench.save(x, 3, 0, 1, 2, 3, 4, 5);
        Bench.due("31 put onto", x.putOnto(1), 'm');
        Bench.due("31 two picks", x.commits(), 6);
        Bench.due("31 the last one", x.headOf(0), 5);
        Bench.due("31 parents", x.parent(5, 0) * 10 + x.parent(4, 0), 41);
        Bench.due("31 labels", x.label(4) * 10 + x.label(5), 23);
        Bench.due("31 the first tree", Bench.filesOf(x, 4), "0=[0, 1, 2, 3, 4]");
        Bench.due("31 the last tree", Bench.files(x), "0=[0, 1, 2, 3, 4, 5]");
        Bench.due("31 the index", x.change(0) + "" + x.staged(0), "--");
        Bench.due("31 the log has one entry more", x.logAt(0, 0) * 10 + x.logAt(0, 1), 53);
        Bench.due("31 the other one stays", x.headOf(1), 1);
        Bench.due("31 the old ones are there", x.linesOf(3, 0), 5);
        Bench.due("31 again", x.putOnto(1), 'u');
        Bench.due("31 itself", x.putOnto(0), 'u');
        Bench.due("31 nothing is changed", x.headOf(0), 5);
    }

    private static void forwards() {
        Patchwright x = Bench.store(1);
        x.branch(1);
        x.switchTo(1);
        Bench.save(x, 1, 0, 2);
        x.switchTo(0);
        Bench.due("31 forwards", x.putOnto(1), 'f');
        Bench.due("31 gets it", x.headOf(0), 1);
        Bench.due("31 its tree", Bench.files(x), "0=[2]");
        Bench.due("31 no commit for that", x.commits(), 2);
    }

    private static void errors() {
        Patchwright x = Bench.fork(Bench.row(1), Bench.row(2), Bench.row(3));
        Bench.fails("31 number", RANGE, x, () -> x.putOnto(6));
        Bench.fails("31 number below", RANGE, x, () -> x.putOnto(-1));
        Bench.fails("31 missing", MISSING, x, () -> x.putOnto(2));
        x.make(5);
        Bench.fails("31 not clean", STATE, x, () -> x.putOnto(1));
        Bench.fails("31 not clean, even onto itself", STATE, x, () -> x.putOnto(0));
        Bench.fails("31 missing, not clean", MISSING, x, () -> x.putOnto(2));
        x.stage(5);
        x.drop(5);
        Bench.fails("31 index not clean", STATE, x, () -> x.putOnto(1));
        Patchwright y = new Patchwright();
        Bench.fails("31 without a commit", MISSING, y, () -> y.putOnto(0));
    }

    private static void leftOut() {
        Patchwright x = Bench.fork(Bench.row(1, 2, 3), Bench.row(1, 2, 3, 4), Bench.row(1, 2, 3, 4));
        Bench.save(x, 3, 0, 0, 1, 2, 3, 4);
        Bench.due("31 by one nothing changes", x.putOnto(1), 'm');
        Bench.due("31 so there is one pick", x.headOf(0), 4);
        Bench.due("31 upon the other one", x.parent(4, 0), 1);
        Bench.due("31 with the second label", x.label(4), 3);
        Patchwright y = Bench.fork(Bench.row(1, 2, 3), Bench.row(1, 2, 3, 4), Bench.row(1, 2, 3, 4));
        Bench.due("31 all are left out", y.putOnto(1), 'm');
        Bench.due("31 the other one's commit", y.headOf(0), 1);
        Bench.due("31 no commits", y.commits(), 3);
    }

    private static void withoutMerges() {
        Patchwright x = Bench.fork(Bench.row(1, 2, 3), Bench.row(1, 2, 3, 4), Bench.row(0, 1, 2, 3));
        x.branch(2);
        x.merge(1, 5);
        Bench.save(x, 6, 2, 8);
        x.switchTo(2);
        Bench.save(x, 7, 3, 9);
        // 5 upon 2; the head 4 reaches 3 (a merge), 2, 1, 0
        x.switchTo(0);
        Bench.due("31 merges are not picked", x.putOnto(2), 'm');
        Bench.due("31 1 and 4 are", x.headOf(0), 7);
        Bench.due("31 labels by rising numbers", x.label(6) * 10 + x.label(7), 16);
        Bench.due("31 upon the other one", x.parent(6, 0), 5);
        Bench.due("31 the tree", Bench.files(x), "0=[0, 1, 2, 3, 4] 2=[8] 3=[9]");
        Patchwright y = Bench.fork(Bench.row(1), Bench.row(2), Bench.row(3));
        y.branch(2);
        y.merge(1, 0);
        y.settle(0, 'n');
        Bench.write(y, 4, 44);
        Bench.saveAll(y, 5);
        y.switchTo(2);
        Bench.save(y, 6, 3, 9);
        y.switchTo(1);
        y.switchTo(0);
        Bench.due("31 1 upon 2 was settled when 2 merged it", y.putOnto(2), 'm');
        Bench.due("31 what a merge itself brought is not picked", Bench.files(y), "0=[] 3=[9]");
    }

    private static void conflict() {
        Patchwright x = Bench.fork(Bench.row(1, 2, 3), Bench.row(1, 7, 3), Bench.row(1, 8, 3));
        Bench.save(x, 3, 2, 5);
        String before = Bench.look(x);
        Bench.due("31 conflict", x.putOnto(1), 'c');
        Bench.due("31 nothing is changed", Bench.look(x), before);
        Patchwright y = Bench.fork(Bench.row(1, 2, 3), Bench.row(1, 2, 3, 4), Bench.row(1, 8, 3));
        Bench.save(y, 3, 0, 1, 7, 3);
        before = Bench.look(y);
        Bench.due("31 conflict at the second one", y.putOnto(1), 'c');
        Bench.due("31 nothing is changed, not even by the first one", Bench.look(y), before);
    }

    private static void settled() {
        Patchwright x = Bench.fork(Bench.row(1, 2, 3), Bench.row(1, 7, 3), Bench.row(1, 8, 3));
        x.switchTo(1);
        x.merge(0, 0);
        x.settle(0, 'b');
        x.giveUp();
        x.switchTo(0);
        Bench.due("31 what was settled", x.putOnto(1), 'm');
        Bench.due("31 as it was settled", Bench.files(x), "0=[1, 8, 7, 3]");
    }

    private static void tooMany() {
        Patchwright x = Bench.store(1);
        x.branch(1);
        x.switchTo(1);
        Bench.save(x, 1, 1, 9);
        x.switchTo(0);
        for (int c = 2; c < 31; c++) {
            Bench.save(x, c, 2, c);
        }
        x.branch(2);
        Bench.save(x, 31, 3, 5);
        // 32 commits, 30 of them to be picked: they would be 62
        Bench.fails("31 more than 60", STATE, x, () -> x.putOnto(1));
        x.switchTo(1);
        Bench.save(x, 32, 3, 6);
        x.switchTo(0);
        Bench.due("31 a conflict, though they were too many", x.putOnto(1), 'c');
        Patchwright y = Bench.store(1);
        y.branch(1);
        y.switchTo(1);
        Bench.save(y, 1, 1, 9);
        y.switchTo(0);
        for (int c = 2; c < 31; c++) {
            Bench.save(y, c, 2, c);
        }
        Bench.due("31 60 in all", y.putOnto(1), 'm');
        Bench.due("31 the last one of 60", y.headOf(0), 59);
        Bench.due("31 a full store, but none is made", y.putOnto(1), 'u');
        y.switchTo(1);
        Bench.due("31 forwards in a full store", y.putOnto(0), 'f');
    }
}
