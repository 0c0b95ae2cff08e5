import java.util.NoSuchElementException;

/** Promises 39 to 42, 47 and 49: blame, the search by halves, soundness. */
final class SearchTest {
    private static final Class<IndexOutOfBoundsException> RANGE = IndexOutOfBoundsException.class;
    private static final Class<NoSuchElementException> MISSING = NoSuchElementException.class;
    private static final Class<IllegalArgumentException> ARGUMENT = IllegalArgumentException.class;
    private static final Class<IllegalStateException> STATE = IllegalStateException.class;
    private static final Class<UnsupportedOperationException> UNSUPPORTED = UnsupportedOperationException.class;

    public static void main(String[] args) {
        blame();
        blameMoves();
        blameMerges();
        search();
        halves();
        branchedSearch();
        sound();
        Bench.close("SearchTest");
    }

    private static void blame() {
        Patchwright x = new Patchwright();
        Bench.fails("39 no head", MISSING, x, () -> x.blame(0, 0));
        Bench.fails("39 file, no head", RANGE, x, () -> x.blame(6, 0));
        Bench.save(x, 0, 0, 1, 2);
        Bench.save(x, 1, 0, 1, 3, 2);
        Bench.save(x, 2, 0, 1, 3, 2, 1);
        Bench.due("39 first", x.blame(0, 0), 0);
        Bench.due("39 inserted", x.blame(0, 1), 1);
        Bench.due("39 moved on", x.blame(0, 2), 0);
        Bench.due("39 the same line once more", x.blame(0, 3), 2);
        Bench.fails("39 file", RANGE, x, () -> x.blame(6, 9));
        Bench.fails("39 file below", RANGE, x, () -> x.blame(-1, 0));
        Bench.fails("39 no such file", MISSING, x, () -> x.blame(1, 0));
        Bench.fails("39 no such line", MISSING, x, () -> x.blame(0, 4));
        Bench.fails("39 no such line below", MISSING, x, () -> x.blame(0, -1));
        x.insert(0, 4, 9);
        Bench.fails("39 of the head, not the working copy", MISSING, x, () -> x.blame(0, 4));
        x.reset(0);
        Bench.save(x, 3, 0, 2, 1);
        // the older text first: its 1 is passed over, as the 2 behind it is as long a row; so the 2 is matched
        Bench.due("39 the parent's text is the first one", x.blame(0, 0) * 10 + x.blame(0, 1), 3);
    }

    private static void blameMoves() {
        Patchwright x = Bench.store(1, 2, 3, 4);
        x.rename(0, 3);
        x.insert(3, 0, 9);
        Bench.saveAll(x, 1);
        Bench.due("39 through a move", x.blame(3, 1), 0);
        Bench.due("39 new in the move", x.blame(3, 0), 1);
        x.rename(3, 5);
        x.cut(5, 2);
        Bench.saveAll(x, 2);
        Bench.due("39 through two moves", x.blame(5, 1), 0);
        Bench.due("39 through one of two", x.blame(5, 0), 1);
        x.drop(5);
        Bench.write(x, 2, 4, 50, 51, 52);
        Bench.saveAll(x, 3);
        Bench.due("39 too unlike for a move", x.blame(2, 0), 3);
        Patchwright y = Bench.store(1, 2);
        Bench.write(y, 1, 1, 2);
        Bench.saveAll(y, 1);
        Bench.due("39 a copy is no move", y.blame(1, 0), 1);
    }

    private static void blameMerges() {
        Patchwright x = Bench.fork(Bench.row(1, 2, 3), Bench.row(1, 2, 3, 4), Bench.row(0, 1, 2, 3));
        x.merge(1, 3);
        Bench.due("39 from theirs", x.blame(0, 0), 1);
        Bench.due("39 from ours", x.blame(0, 4), 2);
        Bench.due("39 from both", x.blame(0, 2), 0);
        Patchwright y = Bench.fork(Bench.row(1), Bench.row(1, 7), Bench.row(1, 7));
        y.merge(1, 3);
        Bench.due("39 the first parent first", y.blame(0, 1), 2);
        y.switchTo(1);
        y.merge(0, 0);
        Bench.due("39 whatever branch", y.blame(0, 1), 2);
        Patchwright z = Bench.fork(Bench.row(1), Bench.row(2), Bench.row(3));
        z.merge(1, 0);
        Bench.write(z, 0, 8, 3);
        Bench.saveAll(z, 4);
        Bench.due("39 made in the merge", z.blame(0, 0), 3);
        Bench.due("39 the second parent", z.blame(0, 1), 1);
    }

    private static Patchwright chain(int commits) {
        Patchwright x = Bench.store(0);
        for (int c = 1; c < commits; c++) {
            Bench.save(x, c, 0, c);
        }
        return x;
    }

    private static void search() {
        Patchwright x = chain(6);
        Bench.fails("41 nothing is searched", MISSING, x, () -> x.next());
        Bench.fails("42 nothing is searched", MISSING, x, () -> x.tell(1, 'q'));
        Bench.fails("40 good", MISSING, x, () -> x.search(6, 5));
        Bench.fails("40 bad", MISSING, x, () -> x.search(0, -1));
        Bench.fails("40 not reached", STATE, x, () -> x.search(5, 0));
        Bench.fails("40 the same", STATE, x, () -> x.search(3, 3));
        Bench.due("40 candidates", x.search(0, 5), 5);
        Bench.due("41 next", x.next(), 2);
        Bench.fails("42 the good one is none", MISSING, x, () -> x.tell(0, 'g'));
        Bench.fails("42 no such commit", MISSING, x, () -> x.tell(6, 'g'));
        Bench.fails("42 below", MISSING, x, () -> x.tell(-1, 'g'));
        Bench.fails("42 far", MISSING, x, () -> x.tell(65, 'g'));
        Bench.fails("42 word", ARGUMENT, x, () -> x.tell(2, 'q'));
        Bench.fails("42 word for the last bad one", ARGUMENT, x, () -> x.tell(5, 'q'));
        Bench.fails("42 the last bad one is not good", UNSUPPORTED, x, () -> x.tell(5, 'g'));
        Bench.fails("42 the last bad one is not passed over", UNSUPPORTED, x, () -> x.tell(5, 's'));
        Bench.due("42 the last bad one is bad", x.tell(5, 'b'), 5);
        Bench.due("42 good", x.tell(2, 'g'), 3);
        Bench.fails("42 no candidate any more", MISSING, x, () -> x.tell(2, 'b'));
        Bench.fails("42 nor what it reaches", MISSING, x, () -> x.tell(1, 'b'));
        Bench.due("41 next of 3, 4, 5", x.next(), 3);
        Bench.due("42 bad", x.tell(4, 'b'), 2);
        Bench.fails("42 5 is none any more", MISSING, x, () -> x.tell(5, 'b'));
        Bench.fails("42 4 is the last bad one", UNSUPPORTED, x, () -> x.tell(4, 'g'));
        Bench.due("42 passed over", x.tell(3, 's'), 2);
        Bench.fails("41 none is left", MISSING, x, () -> x.next());
        Bench.due("42 passed over ones are candidates", x.tell(3, 'b'), 1);
        Bench.fails("41 found", MISSING, x, () -> x.next());
        Bench.due("40 anew", x.search(1, 4), 3);
        Bench.due("41 nothing was passed over", x.next(), 2);
        x.tell(2, 's');
        x.search(1, 4);
        Bench.due("41 a new search passes nothing over", x.next(), 2);
        Bench.fails("40 fails while searching", STATE, x, () -> x.search(2, 2));
    }

    private static void halves() {
        Patchwright x = chain(60);
        x.search(0, 59);
        int bad = 59;
        int tries = 0;
        while (tries < 20) {
            int next;
            try {
                next = x.next();
            } catch (NoSuchElementException e) {
                break;
            }
            tries++;
            x.tell(next, next >= 23 ? 'b' : 'g');
            bad = next >= 23 ? next : bad;
        }
        Bench.due("41 the first bad one", bad, 23);
        Bench.due("41 by halves", tries <= 6, true);
        x.search(0, 59);
        Bench.due("41 the lowest one of the middle", x.next(), 29);
        x.tell(29, 's');
        Bench.due("41 the next one beside it", x.next(), 30);
        x.tell(30, 's');
        Bench.due("41 the lowest one again", x.next(), 28);
    }

    private static void branchedSearch() {
        Patchwright x = Bench.fork(Bench.row(1, 2, 3), Bench.row(1, 2, 3, 4), Bench.row(0, 1, 2, 3));
        x.merge(1, 3);
        Bench.save(x, 4, 1, 1);
        // 4 upon 3 upon 2 and 1, both upon 0
        Bench.due("40 both sides", x.search(0, 4), 4);
        Bench.due("41 3 reaches three, the others one", x.next(), 1);
        Bench.due("42 one side is good", x.tell(1, 'g'), 3);
        Bench.due("41 of 2, 3 and 4", x.next(), 2);
        Bench.due("42 the other side is bad", x.tell(2, 'b'), 1);
        Bench.due("40 from one side", x.search(1, 3), 2);
        Bench.due("42 what the bad one reaches", x.tell(2, 'b'), 1);
        x.switchTo(1);
        Bench.save(x, 5, 2, 9);
        Bench.fails("40 beside it", STATE, x, () -> x.search(5, 4));
        x.search(0, 4);
        x.tell(1, 'b');
        Bench.fails("42 the other side is none", MISSING, x, () -> x.tell(2, 'g'));
        x.search(0, 4);
        x.collect();
        Bench.fails("41 collecting ends it", MISSING, x, () -> x.next());
    }

    private static void sound() {
        Patchwright x = new Patchwright();
        Bench.due("49 new", x.isSound(), true);
        x.make(0);
        Bench.due("49 without a commit", x.isSound(), true);
        Bench.save(x, 0, 0, 1, 1, 2, 1, 2);
        Bench.save(x, 1, 0, 2, 1, 1, 2);
        x.rename(0, 2);
        Bench.saveAll(x, 2);
        Bench.due("49 chain", x.isSound(), true);
        x.branch(1);
        x.reset(0);
        x.reset(1);
        x.collect();
        Bench.due("49 collected", x.isSound(), true);
        Patchwright y = Bench.fork(Bench.row(1), Bench.row(2), Bench.row(3));
        y.merge(1, 0);
        Bench.due("49 while something waits", y.isSound(), true);
    }
}
