import java.util.Arrays;
import java.util.NoSuchElementException;

/** A store of versions. Its words and promises are those of ../shared/DOC.md. */
public final class Patchwright {
    private static final int NONE = -1;
    private static final int FILES = 6;
    private static final int BRANCHES = 6;
    private static final int MOST_COMMITS = 60;
    private static final int TOP_LINE = 99;
    private static final int OURS_MARK = 100;
    private static final int THEIRS_MARK = 101;
    private static final int END_MARK = 102;
    private static final int FULL_FILE = 40;
    private static final int LATE_ENTRIES = 3;
    private static final int SUM_START = 7;
    private static final int SUM_FACTOR = 31;
    private static final int SUM_FILE = 1000;

    private static final int MOST_LINES = 1 << 29;
    private static final int MOST_PAIRS = 520;
    private static final int MOST_ENTRIES = 1024;
    private static final int MOST_CONFLICTS = 48;

    private static final char NOTHING = '-';
    private static final char MERGE = 'm';
    private static final char PICK = 'p';
    private static final char TAKING_BACK = 't';

    private final Texts store;
    private final Compare compare;
    private final Memory memory;
    private final TreeMerge joiner;
    private final Graph graph;
    private final Branches branches;
    private final Blame blamed;
    private final Hunt hunt;
    private final Tree working = new Tree();
    private final Tree index = new Tree();
    private final Tree base = new Tree();
    private final int[] lowBases = new int[MOST_COMMITS];
    private final int[] highBases = new int[MOST_COMMITS];
    private final Tree[] drafts = new Tree[MOST_COMMITS];
    private final int[] drafted = new int[MOST_COMMITS];
    private char waiting = NOTHING;
    private int waitingOther = NONE;
    private int waitingLabel = NONE;

    public Patchwright() {
        Texts storing = new Texts();
        Compare comparing = new Compare();
        Memory remembering = new Memory();
        Graph made = new Graph();
        store = storing;
        compare = comparing;
        memory = remembering;
        joiner = new TreeMerge(storing.none, comparing, new TextMerge(storing, comparing, remembering));
        graph = made;
        branches = new Branches();
        blamed = new Blame(made, comparing);
        hunt = new Hunt();
        for (int i = 0; i < drafts.length; i++) {
            drafts[i] = new Tree();
        }
    }

    // ---- the working copy and the index

    public int make(int file) throws IndexOutOfBoundsException, IllegalStateException {
        needFile(file);
        if (working.has(file)) {
            throw new IllegalStateException("the file is there");
        }
        working.put(file, store.none);
        return working.size();
    }

    public int insert(int file, int place, int line) throws IndexOutOfBoundsException, NoSuchElementException,
            IllegalArgumentException, IllegalStateException {
        needFile(file);
        Text text = textIn(working, file);
        if (place < 0 || place > text.size() || line < 0 || line > TOP_LINE) {
            throw new IllegalArgumentException("no such place, or the line is out of range");
        }
        if (text.size() >= FULL_FILE) {
            throw new IllegalStateException("the file is full");
        }
        store.begin();
        store.addPart(text, 0, place);
        store.add(line);
        store.addPart(text, place, text.size());
        working.put(file, store.finish());
        return text.size() + 1;
    }

    public int cut(int file, int place) throws IndexOutOfBoundsException, NoSuchElementException {
        needFile(file);
        Text text = textIn(working, file);
        int line = lineIn(text, place);
        store.begin();
        store.addPart(text, 0, place);
        store.addPart(text, place + 1, text.size());
        working.put(file, store.finish());
        return line;
    }

    public int drop(int file) throws IndexOutOfBoundsException, NoSuchElementException {
        needFile(file);
        Text text = textIn(working, file);
        working.put(file, null);
        return text.size();
    }

    public int rename(int file, int to) throws IndexOutOfBoundsException, NoSuchElementException,
            IllegalStateException {
        needFile(file);
        needFile(to);
        Text text = textIn(working, file);
        if (working.has(to)) {
            throw new IllegalStateException("the other file is there");
        }
        working.put(file, null);
        working.put(to, text);
        return text.size();
    }

    public boolean stage(int file) throws IndexOutOfBoundsException {
        needFile(file);
        boolean changes = index.get(file) != working.get(file);
        index.put(file, working.get(file));
        return changes;
    }

    public boolean restore(int file) throws IndexOutOfBoundsException {
        needFile(file);
        boolean changes = working.get(file) != index.get(file);
        working.put(file, index.get(file));
        return changes;
    }

    public char change(int file) throws IndexOutOfBoundsException {
        needFile(file);
        return difference(index.get(file), working.get(file));
    }

    public char staged(int file) throws IndexOutOfBoundsException {
        needFile(file);
        return difference(headTree().get(file), index.get(file));
    }

    public int lines(int file) throws IndexOutOfBoundsException, NoSuchElementException {
        needFile(file);
        return textIn(working, file).size();
    }

    public int lineAt(int file, int place) throws IndexOutOfBoundsException, NoSuchElementException {
        needFile(file);
        return lineIn(textIn(working, file), place);
    }

    // ---- commits

    public int commit(int label) throws IllegalArgumentException, UnsupportedOperationException,
            IllegalStateException {
        needLabel(label);
        if (index.hasMark()) {
            throw new UnsupportedOperationException("the index has a mark");
        }
        boolean nothingNew = waiting != MERGE && index.isSame(headTree());
        if (nothingNew || graph.isFull()) {
            throw new IllegalStateException("nothing to commit, or no commits are left");
        }
        int other = waiting == MERGE ? waitingOther : NONE;
        int made = graph.add(index, branches.head(), other, waiting == PICK ? waitingLabel : label);
        branches.give(branches.present, made);
        stopWaiting();
        return made;
    }

    public int linesOf(int commit, int file) throws IndexOutOfBoundsException, NoSuchElementException {
        needFile(file);
        needCommit(commit);
        return textIn(graph.treeOf(commit), file).size();
    }

    public int lineOf(int commit, int file, int place) throws IndexOutOfBoundsException, NoSuchElementException {
        needFile(file);
        needCommit(commit);
        return lineIn(textIn(graph.treeOf(commit), file), place);
    }

    public int parent(int commit, int which) throws NoSuchElementException {
        needCommit(commit);
        int found = graph.parentOf(commit, which);
        if (found == NONE) {
            throw new NoSuchElementException("no such parent");
        }
        return found;
    }

    public int label(int commit) throws NoSuchElementException {
        needCommit(commit);
        return graph.labelOf(commit);
    }

    public boolean reaches(int commit, int other) throws NoSuchElementException {
        needCommit(commit);
        needCommit(other);
        return graph.doesReach(commit, other);
    }

    public int bases(int commit, int other) throws NoSuchElementException {
        needCommit(commit);
        needCommit(other);
        return Long.bitCount(graph.basesOf(commit, other));
    }

    public int matched(int commit, int other, int file) throws IndexOutOfBoundsException, NoSuchElementException {
        needFile(file);
        needCommit(commit);
        needCommit(other);
        Text first = textIn(graph.treeOf(commit), file);
        Text second = textIn(graph.treeOf(other), file);
        compare.partners(first, second);
        return compare.common;
    }

    public int movedTo(int commit, int other, int file) throws IndexOutOfBoundsException, NoSuchElementException {
        needFile(file);
        needCommit(commit);
        needCommit(other);
        int[] targets = new int[FILES];
        compare.findMoves(graph.treeOf(commit), graph.treeOf(other), targets);
        int target = entryOf(targets, file);
        if (target == NONE) {
            throw new NoSuchElementException("no such move");
        }
        return target;
    }

    // ---- branches

    public int branch(int branch) throws IndexOutOfBoundsException, IllegalStateException {
        needBranchNumber(branch);
        if (branches.isThere(branch) || branches.head() == NONE) {
            throw new IllegalStateException("the branch is there, or there is no head");
        }
        branches.give(branch, branches.head());
        return branches.size();
    }

    public int switchTo(int branch) throws IndexOutOfBoundsException, NoSuchElementException,
            IllegalStateException {
        needBranch(branch);
        if (waiting != NOTHING || !isClean()) {
            throw new IllegalStateException("something waits, or the working copy is not clean");
        }
        int before = branches.present;
        branches.present = branch;
        takeTree(headTree());
        return before;
    }

    public int unbranch(int branch) throws IndexOutOfBoundsException, NoSuchElementException,
            IllegalStateException {
        needBranch(branch);
        if (branch == branches.present) {
            throw new IllegalStateException("it is the present branch");
        }
        branches.remove(branch);
        return branches.size();
    }

    public int reset(int commit) throws NoSuchElementException {
        needCommit(commit);
        int before = branches.head();
        moveTo(commit);
        stopWaiting();
        return before;
    }

    public int headOf(int branch) throws IndexOutOfBoundsException, NoSuchElementException {
        return tipOf(branch);
    }

    public int logAt(int branch, int place) throws IndexOutOfBoundsException, NoSuchElementException {
        needBranch(branch);
        int entry = branches.entry(branch, place);
        if (entry == NONE) {
            throw new NoSuchElementException("the log has no such entry");
        }
        return entry;
    }

    // ---- merging, picking, taking back and putting onto

    public char merge(int branch, int label) throws IndexOutOfBoundsException, NoSuchElementException,
            IllegalArgumentException, IllegalStateException {
        int other = tipOf(branch);
        needLabel(label);
        needReady();
        int head = branches.head();
        if (head != NONE && graph.doesReach(head, other)) {
            return 'u';
        }
        if (head == NONE || graph.doesReach(other, head)) {
            moveTo(other);
            return 'f';
        }
        findBase(head, other);
        joiner.join(base, headTree(), graph.treeOf(other), true);
        if (joiner.found > 0) {
            waitFor(MERGE, other, label);
            return 'c';
        }
        moveTo(graph.add(joiner.merged, head, other, label));
        return 'm';
    }

    public char pick(int commit) throws NoSuchElementException, IllegalStateException {
        needCommit(commit);
        needReady();
        needHead();
        Tree before = graph.treeOf(graph.parentOf(commit, 0));
        return applyChange(before, graph.treeOf(commit), PICK, graph.labelOf(commit));
    }

    public char takeBack(int commit, int label) throws NoSuchElementException, IllegalArgumentException,
            IllegalStateException {
        needCommit(commit);
        needLabel(label);
        needReady();
        needHead();
        Tree before = graph.treeOf(graph.parentOf(commit, 0));
        return applyChange(graph.treeOf(commit), before, TAKING_BACK, label);
    }

    public char putOnto(int branch) throws IndexOutOfBoundsException, NoSuchElementException,
            IllegalStateException {
        int other = tipOf(branch);
        needHead();
        if (waiting != NOTHING || !isClean()) {
            throw new IllegalStateException("something waits, or the working copy is not clean");
        }
        int head = branches.head();
        if (graph.doesReach(head, other)) {
            return 'u';
        }
        if (graph.doesReach(other, head)) {
            moveTo(other);
            return 'f';
        }
        int picks = draftPicks(head, other);
        if (picks == NONE) {
            return 'c';
        }
        if (graph.made + picks > MOST_COMMITS) {
            throw new IllegalStateException("more commits would be made than there may be");
        }
        int last = other;
        for (int i = 0; i < picks && i < drafts.length && i < drafted.length; i++) {
            last = graph.add(drafts[i], last, NONE, graph.labelOf(drafted[i]));
        }
        moveTo(last);
        return 'm';
    }

    public char waits() {
        return waiting;
    }

    public int giveUp() throws IllegalStateException {
        if (waiting == NOTHING) {
            throw new IllegalStateException("nothing waits");
        }
        takeTree(headTree());
        stopWaiting();
        return joiner.found;
    }

    public int conflicts() {
        return waiting == NOTHING ? 0 : joiner.found;
    }

    public char kindOf(int conflict) throws NoSuchElementException {
        needConflict(conflict);
        return joiner.kindAt(conflict);
    }

    public int fileOf(int conflict) throws NoSuchElementException {
        needConflict(conflict);
        return joiner.fileAt(conflict);
    }

    public int settle(int file, char way) throws IndexOutOfBoundsException, NoSuchElementException,
            IllegalArgumentException, UnsupportedOperationException {
        needFile(file);
        Text text = textIn(working, file);
        if (way != 'o' && way != 't' && way != 'b' && way != 'n') {
            throw new IllegalArgumentException("no such way");
        }
        int start = text.find(OURS_MARK, 0);
        int middle = start == NONE ? NONE : text.find(THEIRS_MARK, start + 1);
        int end = middle == NONE ? NONE : text.find(END_MARK, middle + 1);
        if (end == NONE) {
            throw new UnsupportedOperationException("the file has no mark region");
        }
        Text ours = store.partOf(text, start + 1, middle);
        Text theirs = store.partOf(text, middle + 1, end);
        Text became = wayOut(ours, theirs, way);
        memory.keep(ours, theirs, became);
        store.begin();
        store.addPart(text, 0, start);
        store.addPart(became, 0, became.size());
        store.addPart(text, end + 1, text.size());
        Text settled = store.finish();
        working.put(file, settled);
        return settled.size();
    }

    public int remembered() {
        return memory.count;
    }

    // ---- blame and search

    public int blame(int file, int place) throws IndexOutOfBoundsException, NoSuchElementException {
        needFile(file);
        int head = branches.head();
        if (head == NONE) {
            throw new NoSuchElementException("there is no head");
        }
        lineIn(textIn(graph.treeOf(head), file), place);
        blamed.trace(head, file, place);
        return blamed.commit;
    }

    public int search(int good, int bad) throws NoSuchElementException, IllegalStateException {
        needCommit(good);
        needCommit(bad);
        if (good == bad || !graph.doesReach(bad, good)) {
            throw new IllegalStateException("the bad one does not reach the good one, or is the same");
        }
        hunt.begin(graph.reachOf(bad) & ~graph.reachOf(good), bad);
        return hunt.size();
    }

    public int next() throws NoSuchElementException {
        int best = hunt.best(graph);
        if (best == NONE) {
            throw new NoSuchElementException("nothing is searched, or there is no candidate to try");
        }
        return best;
    }

    public int tell(int commit, char how) throws NoSuchElementException, IllegalArgumentException,
            UnsupportedOperationException {
        if (!hunt.isCandidate(commit)) {
            throw new NoSuchElementException("nothing is searched, or it is no candidate");
        }
        if (how != 'g' && how != 'b' && how != 's') {
            throw new IllegalArgumentException("no such word");
        }
        if (how != 'b' && commit == hunt.lastBad) {
            throw new UnsupportedOperationException("it is the last bad one");
        }
        if (how == 'g') {
            hunt.good(graph.reachOf(commit));
        } else if (how == 'b') {
            hunt.bad(commit, graph.reachOf(commit));
        } else {
            hunt.passOver(commit);
        }
        return hunt.size();
    }

    // ---- the whole store

    public int collect() {
        long held = waiting == MERGE ? graph.reachOf(waitingOther) : 0L;
        for (int b = 0; b < BRANCHES; b++) {
            held |= graph.reachOf(branches.tip(b));
            for (int place = 0; place < LATE_ENTRIES; place++) {
                held |= graph.reachOf(branches.entry(b, place));
            }
        }
        hunt.end();
        return graph.keepOnly(held);
    }

    public int commits() {
        return graph.size();
    }

    public int texts() {
        int different = 0;
        int stamp = store.newStamp();
        for (int c = 0; c < graph.made; c++) {
            if (graph.isThere(c)) {
                different += graph.treeOf(c).stampAll(stamp);
            }
        }
        return different;
    }

    public long sum(int commit) throws NoSuchElementException {
        needCommit(commit);
        return graph.sumOf(commit);
    }

    public float share(int commit) throws NoSuchElementException, ArithmeticException {
        needCommit(commit);
        int head = branches.head();
        if (head == NONE) {
            throw new NoSuchElementException("there is no head");
        }
        int all = 0;
        int due = 0;
        Tree tree = graph.treeOf(head);
        for (int file = 0; file < FILES; file++) {
            int size = tree.has(file) ? textIn(tree, file).size() : 0;
            for (int place = 0; place < size; place++) {
                blamed.trace(head, file, place);
                due += blamed.commit == commit ? 1 : 0;
            }
            all += size;
        }
        if (all == 0) {
            throw new ArithmeticException("the head has no lines");
        }
        return (float) due / (float) all;
    }

    public double meanParents() throws ArithmeticException {
        int count = graph.size();
        if (count == 0) {
            throw new ArithmeticException("there are no commits");
        }
        return (double) graph.countParents() / (double) count;
    }

    public boolean isSound() {
        if (!areParentsSound() || !areBranchesSound()) {
            return false;
        }
        int head = branches.head();
        Tree tree = graph.treeOf(head);
        for (int file = 0; file < FILES; file++) {
            int size = tree.has(file) ? textIn(tree, file).size() : 0;
            for (int place = 0; place < size; place++) {
                blamed.trace(head, file, place);
                Text found = graph.treeOf(blamed.commit).get(blamed.file);
                if (found == null || found.at(blamed.place) != textIn(tree, file).at(place) || blamed.goesOn()) {
                    return false;
                }
            }
        }
        return true;
    }

    // ---- what the calls above share

    private static void needFile(int file) {
        if (file < 0 || file >= FILES) {
            throw new IndexOutOfBoundsException("no such file number");
        }
    }

    private static void needLabel(int label) {
        if (label < 0) {
            throw new IllegalArgumentException("the label is less than 0");
        }
    }

    private static void needBranchNumber(int branch) {
        if (branch < 0 || branch >= BRANCHES) {
            throw new IndexOutOfBoundsException("no such branch number");
        }
    }

    private void needBranch(int branch) {
        needBranchNumber(branch);
        if (!branches.isThere(branch)) {
            throw new NoSuchElementException("the branch is not there");
        }
    }

    private int tipOf(int branch) {
        needBranchNumber(branch);
        int tip = branches.tip(branch);
        if (tip == NONE) {
            throw new NoSuchElementException("the branch is not there or has no commit");
        }
        return tip;
    }

    private void needCommit(int commit) {
        if (!graph.isThere(commit)) {
            throw new NoSuchElementException("no such commit, or it was collected");
        }
    }

    private void needConflict(int conflict) {
        if (waiting == NOTHING || conflict < 0 || conflict >= joiner.found) {
            throw new NoSuchElementException("no such conflict");
        }
    }

    private void needReady() {
        if (waiting != NOTHING || !isClean() || graph.isFull()) {
            throw new IllegalStateException("something waits, or is not clean, or no commits are left");
        }
    }

    private void needHead() {
        if (branches.head() == NONE) {
            throw new IllegalStateException("there is no head");
        }
    }

    private static Text textIn(Tree tree, int file) {
        Text text = tree.get(file);
        if (text == null) {
            throw new NoSuchElementException("no such file");
        }
        return text;
    }

    private static int lineIn(Text text, int place) {
        int line = text.at(place);
        if (line == NONE) {
            throw new NoSuchElementException("no such line");
        }
        return line;
    }

    private static char difference(Text before, Text now) {
        if (before == now) {
            return '-';
        }
        if (before == null) {
            return 'n';
        }
        return now == null ? 'g' : 'c';
    }

    private Tree headTree() {
        return graph.treeOf(branches.head());
    }

    private boolean isClean() {
        Tree head = headTree();
        return working.isSame(head) && index.isSame(head);
    }

    private void takeTree(Tree tree) {
        working.copy(tree);
        index.copy(tree);
    }

    private void moveTo(int commit) {
        branches.give(branches.present, commit);
        takeTree(graph.treeOf(commit));
    }

    private void waitFor(char kind, int other, int label) {
        waiting = kind;
        waitingOther = other;
        waitingLabel = label;
        takeTree(joiner.merged);
    }

    private void stopWaiting() {
        waiting = NOTHING;
        waitingOther = NONE;
        waitingLabel = NONE;
    }

    /** Puts the base tree of two commits into base: down the pairs of bases, then merging them upwards. */
    private void findBase(int commit, int other) {
        long bases = graph.basesOf(commit, other);
        int pairs = 0;
        while (pairs < lowBases.length && pairs < highBases.length && Long.bitCount(bases) > 1) {
            lowBases[pairs] = lowest(bases);
            highBases[pairs] = lowest(bases & (bases - 1));
            bases = graph.basesOf(lowBases[pairs], highBases[pairs]);
            pairs++;
        }
        base.copy(graph.treeOf(lowest(bases)));
        for (int i = pairs - 1; i >= 0; i--) {
            joiner.join(base, graph.treeOf(lowBases[i]), graph.treeOf(highBases[i]), false);
            base.copy(joiner.merged);
        }
    }

    private char applyChange(Tree before, Tree after, char kind, int label) {
        int head = branches.head();
        joiner.join(before, graph.treeOf(head), after, true);
        if (joiner.found > 0) {
            waitFor(kind, NONE, label);
            return 'c';
        }
        if (joiner.merged.isSame(graph.treeOf(head))) {
            return 'e';
        }
        moveTo(graph.add(joiner.merged, head, NONE, label));
        return 'm';
    }

    /** Merges the picks of a putting onto without taking them over; NONE if there was a conflict. */
    private int draftPicks(int head, int other) {
        long left = graph.reachOf(head) & ~graph.reachOf(other);
        Tree ours = graph.treeOf(other);
        int picks = 0;
        for (int c = 0; c < graph.made; c++) {
            if ((left >> c & 1L) == 0 || graph.parentOf(c, 1) != NONE) {
                continue;
            }
            joiner.join(graph.treeOf(graph.parentOf(c, 0)), ours, graph.treeOf(c), true);
                if (joiner.found > 0) {
                return NONE;
            }
            if (!joiner.merged.isSame(ours) && picks < drafts.length && picks < drafted.length) {
                drafts[picks].copy(joiner.merged);
                drafted[picks] = c;
                ours = drafts[picks];
                picks++;
            }
        }
        return picks;
    }

    private Text wayOut(Text ours, Text theirs, char way) {
        store.begin();
        if (way == 'o' || way == 'b') {
            store.addPart(ours, 0, ours.size());
        }
        if (way == 't' || way == 'b') {
            store.addPart(theirs, 0, theirs.size());
        }
        return store.finish();
    }

    private boolean areParentsSound() {
        for (int c = 0; c < graph.made; c++) {
            for (int which = 0; which < 2 && graph.isThere(c); which++) {
                int above = graph.parentOf(c, which);
                if (above != NONE && (above >= c || !graph.isThere(above))) {
                    return false;
                }
            }
        }
        return true;
    }

    private boolean areBranchesSound() {
        for (int b = 0; b < BRANCHES; b++) {
            int tip = branches.tip(b);
            if (tip != NONE && !graph.isThere(tip)) {
                return false;
            }
            for (int place = 0; place < LATE_ENTRIES; place++) {
                int entry = branches.entry(b, place);
                if (entry != NONE && !graph.isThere(entry)) {
                    return false;
                }
            }
        }
        return true;
    }

    private static int lowest(long mask) {
        for (int c = 0; c < MOST_COMMITS; c++) {
            if ((mask >> c & 1L) != 0) {
                return c;
            }
        }
        return NONE;
    }

    private static int entryOf(int[] row, int place) {
        return place < 0 || place >= row.length ? NONE : row[place];
    }

    private static int[] withRoom(int[] row, int need) {
        if (need <= row.length) {
            return row;
        }
        int twice = 2 * row.length;
        return new int[need > twice ? need : twice];
    }

    private static long[] withRoom(long[] row, int need) {
        if (need <= row.length) {
            return row;
        }
        int twice = 2 * row.length;
        return new long[need > twice ? need : twice];
    }

    // ---- the parts of the store

    /** A text, never changed; equal texts are one object (Texts sees to it), so == compares them. */
    private static final class Text {
        final byte[] row;
        final int hash;
        final int number;
        final boolean marked;
        Text link;
        int stamp;

        Text(byte[] row, int hash, int number) {
            this.row = row;
            this.hash = hash;
            this.number = number;
            boolean mark = false;
            for (int i = 0; i < row.length; i++) {
                mark = mark || row[i] > TOP_LINE;
            }
            marked = mark;
        }

        int size() {
            return row.length;
        }

        int at(int place) {
            return place < 0 || place >= row.length ? NONE : row[place];
        }

        /** The first place from a place on where the line stands. */
        int find(int line, int from) {
            for (int i = from < 0 ? 0 : from; i < row.length; i++) {
                if (row[i] == line) {
                    return i;
                }
            }
            return NONE;
        }

        boolean hasPartOf(int from, int to, Text other, int otherFrom, int otherTo) {
            if (to - from != otherTo - otherFrom || from < 0 || otherFrom < 0) {
                return false;
            }
            if (to > row.length || otherTo > other.row.length) {
                return false;
            }
            for (int i = from, j = otherFrom; i < to && j < otherTo; i++, j++) {
                if (row[i] != other.row[j]) {
                    return false;
                }
            }
            return true;
        }
    }

    /** All texts that were ever made, each once; a new one is drafted line by line. */
    private static final class Texts {
        private static final int BUCKETS = 256;
        private static final int USUAL_LINES = 128;
        final Text none;
        private final Text[] heads = new Text[BUCKETS];
        private byte[] draft = new byte[USUAL_LINES];
        private int drafted;
        private int made;
        private int stamp;

        Texts() {
            none = new Text(new byte[0], 0, 0);
            heads[0] = none;
            made = 1;
        }

        void begin() {
            drafted = 0;
        }

        void add(int line) {
            if (drafted >= MOST_LINES) {
                return;
            }
            if (drafted >= draft.length) {
                draft = Arrays.copyOf(draft, 2 * drafted);
            }
            if (drafted >= 0 && drafted < draft.length) {
                draft[drafted] = (byte) line;
                drafted++;
            }
        }

        void addPart(Text text, int from, int to) {
            for (int i = from; i < to; i++) {
                add(text.at(i));
            }
        }

        Text partOf(Text text, int from, int to) {
            begin();
            addPart(text, from, to);
            return finish();
        }

        Text finish() {
            int hash = 0;
            for (int i = 0; i < drafted && i < draft.length; i++) {
                hash = hash * SUM_FACTOR + draft[i] + 1;
            }
            int bucket = hash & (BUCKETS - 1);
            Text text = heads[bucket];
            for (int i = 0; i < made && text != null; i++) {
                if (text.hash == hash && isDraft(text)) {
                    return text;
                }
                text = text.link;
            }
            Text fresh = new Text(Arrays.copyOf(draft, drafted), hash, made);
            fresh.link = heads[bucket];
            heads[bucket] = fresh;
            made++;
            return fresh;
        }

        private boolean isDraft(Text text) {
            if (text.row.length != drafted) {
                return false;
            }
            for (int i = 0; i < drafted && i < draft.length && i < text.row.length; i++) {
                if (text.row[i] != draft[i]) {
                    return false;
                }
            }
            return true;
        }

        int newStamp() {
            stamp++;
            return stamp;
        }
    }

    /** Texts of some files; a file that is not there has null. */
    private static final class Tree {
        private final Text[] files = new Text[FILES];

        Text get(int file) {
            return file < 0 || file >= files.length ? null : files[file];
        }

        boolean has(int file) {
            return file >= 0 && file < files.length && files[file] != null;
        }

        void put(int file, Text text) {
            if (file >= 0 && file < files.length) {
                files[file] = text;
            }
        }

        void clear() {
            for (int f = 0; f < files.length; f++) {
                files[f] = null;
            }
        }

        void copy(Tree other) {
            for (int f = 0; f < files.length && f < other.files.length; f++) {
                files[f] = other.files[f];
            }
        }

        boolean isSame(Tree other) {
            for (int f = 0; f < files.length && f < other.files.length; f++) {
                if (files[f] != other.files[f]) {
                    return false;
                }
            }
            return true;
        }

        int size() {
            int count = 0;
            for (int f = 0; f < files.length; f++) {
                count += files[f] == null ? 0 : 1;
            }
            return count;
        }

        boolean hasMark() {
            for (int f = 0; f < files.length; f++) {
                if (files[f] != null && files[f].marked) {
                    return true;
                }
            }
            return false;
        }

        /** Puts a stamp on all texts and returns how many did not bear it yet. */
        int stampAll(int stamp) {
            int fresh = 0;
            for (int f = 0; f < files.length; f++) {
                if (files[f] != null && files[f].stamp != stamp) {
                    files[f].stamp = stamp;
                    fresh++;
                }
            }
            return fresh;
        }
    }

    /** Matches texts and finds moves; the latest matchings are kept, as blame asks for the same ones line by line. */
    private static final class Compare {
        private static final int SLOTS = 64;
        private static final int WORD = 64;
        private static final int USUAL = 48;
        private static final int FACTOR = 30;
        private static final int LIKE_ENOUGH = 50;
        private static final int SAME = 100;
        int common;
        int[] back = new int[USUAL];
        private final Text[] firsts = new Text[SLOTS];
        private final Text[] seconds = new Text[SLOTS];
        private final int[][] rows = new int[SLOTS][USUAL];
        private final int[][] backs = new int[SLOTS][USUAL];
        private final int[] counts = new int[SLOTS];
        private int[] here = new int[USUAL];
        private int[] below = new int[USUAL];
        private long[] skips = new long[USUAL];

        /**
         * For each line of the first text the place of the line of the second one that it is matched with, or NONE;
         * common becomes their number, and back the same the other way round. The rows stand until the next call.
         */
        int[] partners(Text first, Text second) {
            // An even factor, as texts that follow one another often have numbers at the same distance.
            int mixed = first.number * FACTOR + second.number;
            int slot = (mixed ^ mixed >> 6) & (SLOTS - 1);
            if (firsts[slot] != first || seconds[slot] != second) {
                int height = first.row.length;
                int width = second.row.length;
                int same = 0;
                while (same < height && same < width && first.row[same] == second.row[same]) {
                    same++;
                }
                if (same < height && same < width) {
                    here = withRoom(here, width + 1);
                    below = withRoom(below, width + 1);
                    skips = withRoom(skips, height * ((width + WORD - 1) / WORD));
                    fillSkips(first.row, second.row, same);
                }
                rows[slot] = withRoom(rows[slot], height);
                backs[slot] = withRoom(backs[slot], width);
                counts[slot] = walk(first.row, second.row, same, slot);
                firsts[slot] = first;
                seconds[slot] = second;
            }
            common = counts[slot];
            back = backs[slot];
            return rows[slot];
        }

        /**
         * From the ends of both texts, the lengths of the greatest common rows, two rows at a time; what is kept of
         * each cell is one bit, whether a line of the first text is passed over there.
         */
        private void fillSkips(byte[] first, byte[] second, int same) {
            int width = second.length - same;
            int stride = (width + WORD - 1) / WORD;
            if (width < 0 || here.length <= width || below.length <= width) {
                return;
            }
            for (int j = 0; j <= width; j++) {
                below[j] = 0;
            }
            for (int i = first.length - 1; i >= same && i >= 0; i--) {
                long word = 0L;
                here[width] = 0;
                for (int j = width - 1; j >= 0; j--) {
                    if (first[i] == second[same + j]) {
                        here[j] = below[j + 1] + 1;
                    } else if (below[j] >= here[j + 1]) {
                        here[j] = below[j];
                        word |= 1L << (j % WORD);
                    } else {
                        here[j] = here[j + 1];
                    }
                    int cell = (i - same) * stride + j / WORD;
                    if (j % WORD == 0 && cell >= 0 && cell < skips.length) {
                        skips[cell] = word;
                        word = 0L;
                    }
                }
                int[] done = here;
                here = below;
                below = done;
            }
        }

        /** Goes through both texts from their beginnings; what is equal there needs no look at the bits. */
        private int walk(byte[] first, byte[] second, int same, int slot) {
            int[] row = rows[slot];
            int[] other = backs[slot];
            int stride = (second.length - same + WORD - 1) / WORD;
            int count = 0;
            for (int j = 0; j < second.length && j < other.length; j++) {
                other[j] = NONE;
            }
            int j = 0;
            for (int i = 0; i < first.length && i < row.length; i++) {
                row[i] = NONE;
                boolean skipped = false;
                while (!skipped && j < second.length && j < other.length && row[i] == NONE) {
                    int cell = (i - same) * stride + (j - same) / WORD;
                    if (first[i] == second[j]) {
                        row[i] = j;
                        other[j] = i;
                        count++;
                        j++;
                    } else if (cell >= 0 && cell < skips.length && (skips[cell] >> ((j - same) % WORD) & 1L) != 0) {
                        skipped = true;
                    } else {
                        j++;
                    }
                }
            }
            return count;
        }

        private int likeness(Text one, Text other) {
            int both = one.row.length + other.row.length;
            if (both == 0) {
                return SAME;
            }
            partners(one, other);
            return 2 * SAME * common / both;
        }

        /** For each file of the first tree the file of the second one that it was moved to, or NONE. */
        void findMoves(Tree from, Tree to, int[] targets) {
            int taken = 0;
            for (int f = 0; f < targets.length; f++) {
                targets[f] = NONE;
            }
            for (int round = 0; round < FILES; round++) {
                int best = LIKE_ENOUGH - 1;
                int gone = NONE;
                int fresh = NONE;
                for (int f = 0; f < targets.length; f++) {
                    if (!from.has(f) || to.has(f) || targets[f] != NONE) {
                        continue;
                    }
                    for (int g = 0; g < FILES; g++) {
                        if (!to.has(g) || from.has(g) || (taken >> g & 1) != 0) {
                            continue;
                        }
                        int like = likeness(from.files[f], to.files[g]);
                        if (like > best) {
                            best = like;
                            gone = f;
                            fresh = g;
                        }
                    }
                }
                if (gone == NONE) {
                    return;
                }
                targets[gone] = fresh;
                taken |= 1 << fresh;
            }
        }
    }

    /** What pairs of parts were settled to. */
    private static final class Memory {
        int count;
        private final Text[] ours = new Text[MOST_PAIRS];
        private final Text[] theirs = new Text[MOST_PAIRS];
        private final Text[] became = new Text[MOST_PAIRS];

        void keep(Text oursPart, Text theirsPart, Text result) {
            int place = count;
            for (int i = 0; i < count && i < ours.length && i < theirs.length; i++) {
                if (ours[i] == oursPart && theirs[i] == theirsPart) {
                    place = i;
                }
            }
            if (place < ours.length && place < theirs.length && place < became.length) {
                ours[place] = oursPart;
                theirs[place] = theirsPart;
                became[place] = result;
                count += place == count ? 1 : 0;
            }
        }

        /** What a part of ours and one of theirs were settled to, or null. */
        Text find(Text oursText, int o, int oEnd, Text theirsText, int t, int tEnd) {
            for (int i = 0; i < count && i < ours.length && i < theirs.length && i < became.length; i++) {
                if (ours[i] != null && theirs[i] != null
                        && ours[i].hasPartOf(0, ours[i].row.length, oursText, o, oEnd)
                        && theirs[i].hasPartOf(0, theirs[i].row.length, theirsText, t, tEnd)) {
                    return became[i];
                }
            }
            return null;
        }
    }

    /** Merges three texts. */
    private static final class TextMerge {
        boolean left;
        boolean settling;
        private final Texts texts;
        private final Compare compare;
        private final Memory memory;
        private Text base;
        private Text ours;
        private Text theirs;
        private int[] inOurs = new int[FULL_FILE];
        private int[] inTheirs = new int[FULL_FILE];

        TextMerge(Texts texts, Compare compare, Memory memory) {
            this.texts = texts;
            this.compare = compare;
            this.memory = memory;
        }

        /** Returns the merged text; left becomes whether it has a conflict left. */
        Text join(Text baseText, Text oursText, Text theirsText) {
            left = false;
            if (oursText == theirsText || theirsText == baseText) {
                return oursText;
            }
            if (oursText == baseText) {
                return theirsText;
            }
            base = baseText;
            ours = oursText;
            theirs = theirsText;
            int size = base.row.length;
            inOurs = copyOf(compare.partners(base, ours), inOurs, size);
            inTheirs = copyOf(compare.partners(base, theirs), inTheirs, size);
            texts.begin();
            int b = 0;
            int o = 0;
            int t = 0;
            for (int i = 0; i < size && i < inOurs.length && i < inTheirs.length; i++) {
                if (inOurs[i] != NONE && inTheirs[i] != NONE) {
                    addPart(b, i, o, inOurs[i], t, inTheirs[i]);
                    texts.add(base.at(i));
                    b = i + 1;
                    o = inOurs[i] + 1;
                    t = inTheirs[i] + 1;
                }
            }
            addPart(b, size, o, ours.row.length, t, theirs.row.length);
            return texts.finish();
        }

        private int[] copyOf(int[] row, int[] into, int size) {
            int[] copy = withRoom(into, size);
            for (int i = 0; i < size && i < row.length && i < copy.length; i++) {
                copy[i] = row[i];
            }
            return copy;
        }

        private void addPart(int b, int bEnd, int o, int oEnd, int t, int tEnd) {
            if (ours.hasPartOf(o, oEnd, base, b, bEnd)) {
                texts.addPart(theirs, t, tEnd);
                return;
            }
            if (theirs.hasPartOf(t, tEnd, base, b, bEnd) || theirs.hasPartOf(t, tEnd, ours, o, oEnd)) {
                texts.addPart(ours, o, oEnd);
                return;
            }
            Text became = settling ? memory.find(ours, o, oEnd, theirs, t, tEnd) : null;
            if (became != null) {
                texts.addPart(became, 0, became.row.length);
                return;
            }
            left = true;
            texts.add(OURS_MARK);
            texts.addPart(ours, o, oEnd);
            texts.add(THEIRS_MARK);
            texts.addPart(theirs, t, tEnd);
            texts.add(END_MARK);
        }
    }

    /** Merges three trees and lists the conflicts. */
    private static final class TreeMerge {
        final Tree merged = new Tree();
        int found;
        private final Text none;
        private final Compare compare;
        private final TextMerge merging;
        private final int[] oursMoves = new int[FILES];
        private final int[] theirsMoves = new int[FILES];
        private final char[] kinds = new char[MOST_CONFLICTS];
        private final int[] places = new int[MOST_CONFLICTS];
        private Tree base;
        private Tree ours;
        private Tree theirs;
        private int target;
        private Text baseText;
        private Text oursText;
        private Text theirsText;

        TreeMerge(Text none, Compare compare, TextMerge merging) {
            this.none = none;
            this.compare = compare;
            this.merging = merging;
        }

        /** Puts the merged tree into merged, which must be none of the three, and the conflicts' number into found. */
        void join(Tree baseTree, Tree oursTree, Tree theirsTree, boolean settling) {
            base = baseTree;
            ours = oursTree;
            theirs = theirsTree;
            merging.settling = settling;
            merged.clear();
            found = 0;
            compare.findMoves(base, ours, oursMoves);
            compare.findMoves(base, theirs, theirsMoves);
            for (int f = 0; f < FILES; f++) {
                if (base.has(f)) {
                    chooseOld(f);
                    giveChosen('x');
                }
            }
            for (int f = 0; f < FILES; f++) {
                if (!base.has(f)) {
                    chooseNew(f);
                    giveChosen('a');
                }
            }
        }

        char kindAt(int conflict) {
            return conflict < 0 || conflict >= kinds.length ? NOTHING : kinds[conflict];
        }

        int fileAt(int conflict) {
            return entryOf(places, conflict);
        }

        private void note(char kind, int file) {
            if (found < kinds.length && found < places.length) {
                kinds[found] = kind;
                places[found] = file;
                found++;
            }
        }

        /** Merges the chosen texts and gives what comes out to the target, where another text may be already. */
        private void giveChosen(char kind) {
            if (baseText == null || oursText == null || theirsText == null) {
                return;
            }
            Text text = merging.join(baseText, oursText, theirsText);
            if (merging.left) {
                note(kind, target);
            }
            Text there = merged.get(target);
            if (there != null) {
                text = merging.join(none, there, text);
                note('p', target);
            }
            merged.put(target, text);
        }

        private void choose(Text three, Text one, Text other) {
            baseText = three;
            oursText = one;
            theirsText = other;
        }

        /** Chooses the texts of a file of the base, or none if it is gone, and the file that gets what comes out. */
        private void chooseOld(int file) {
            Text old = base.get(file);
            int o = ours.has(file) ? file : entryOf(oursMoves, file);
            int t = theirs.has(file) ? file : entryOf(theirsMoves, file);
            choose(null, null, null);
            if (o != NONE && t != NONE) {
                choose(old, ours.get(o), theirs.get(t));
                target = o == file ? t : o;
                if (o != file && t != file && o != t) {
                    note('n', target);
                }
            } else if (o != NONE || t != NONE) {
                target = o == NONE ? t : o;
                Text stays = o == NONE ? theirs.get(t) : ours.get(o);
                if (target != file || stays != old) {
                    choose(stays, stays, stays);
                    note('d', target);
                }
            }
        }

        /** Chooses the texts of a file that is new, and no move, on one side or both; or none. */
        private void chooseNew(int file) {
            Text one = isTarget(oursMoves, file) ? null : ours.get(file);
            Text other = isTarget(theirsMoves, file) ? null : theirs.get(file);
            choose(none, one == null ? other : one, other == null ? one : other);
            target = file;
        }

        private static boolean isTarget(int[] moves, int file) {
            for (int f = 0; f < moves.length; f++) {
                if (moves[f] == file) {
                    return true;
                }
            }
            return false;
        }
    }

    /** The commits; what a commit reaches is a set of bits. */
    private static final class Graph {
        int made;
        private long there;
        private final Tree nothing = new Tree();
        private final Tree[] trees = new Tree[MOST_COMMITS];
        private final int[] firsts = new int[MOST_COMMITS];
        private final int[] seconds = new int[MOST_COMMITS];
        private final int[] labels = new int[MOST_COMMITS];
        private final long[] reach = new long[MOST_COMMITS];
        private final long[] sums = new long[MOST_COMMITS];

        Graph() {
            for (int c = 0; c < trees.length; c++) {
                trees[c] = new Tree();
            }
        }

        boolean isFull() {
            return made >= MOST_COMMITS;
        }

        boolean isThere(int commit) {
            return commit >= 0 && commit < made && commit < MOST_COMMITS && (there >> commit & 1L) != 0;
        }

        int size() {
            return Long.bitCount(there);
        }

        /** The tree of a commit, or one without files if there is no such commit. */
        Tree treeOf(int commit) {
            return isThere(commit) ? trees[commit] : nothing;
        }

        int labelOf(int commit) {
            return isThere(commit) ? labels[commit] : NONE;
        }

        long sumOf(int commit) {
            return isThere(commit) ? sums[commit] : 0L;
        }

        long reachOf(int commit) {
            return isThere(commit) ? reach[commit] : 0L;
        }

        int parentOf(int commit, int which) {
            if (!isThere(commit) || which < 0 || which > 1) {
                return NONE;
            }
            return which == 0 ? firsts[commit] : seconds[commit];
        }

        boolean doesReach(int commit, int other) {
            return isThere(other) && (reachOf(commit) >> other & 1L) != 0;
        }

        long basesOf(int commit, int other) {
            long both = reachOf(commit) & reachOf(other);
            long covered = 0L;
            for (int c = 0; c < made && c < MOST_COMMITS; c++) {
                if ((both >> c & 1L) != 0) {
                    covered |= reachOf(c) & ~(1L << c);
                }
            }
            return both & ~covered;
        }

        int add(Tree tree, int first, int second, int label) {
            int commit = made;
            if (commit < 0 || commit >= MOST_COMMITS) {
                return NONE;
            }
            trees[commit].copy(tree);
            firsts[commit] = first;
            seconds[commit] = second;
            labels[commit] = label;
            reach[commit] = 1L << commit | reachOf(first) | reachOf(second);
            sums[commit] = sumUp(tree, first, second, label);
            there |= 1L << commit;
            made++;
            return commit;
        }

        /** Done once, when the commit is made: what goes into the sum never changes. */
        private long sumUp(Tree tree, int first, int second, int label) {
            long sum = SUM_FACTOR * (long) SUM_START + label;
            for (int f = 0; f < FILES; f++) {
                Text text = tree.get(f);
                if (text != null) {
                    sum = SUM_FACTOR * sum + SUM_FILE + f;
                    for (int i = 0; i < text.row.length; i++) {
                        sum = SUM_FACTOR * sum + text.row[i];
                    }
                }
            }
            if (isThere(first)) {
                sum = SUM_FACTOR * sum + sumOf(first);
            }
            if (isThere(second)) {
                sum = SUM_FACTOR * sum + sumOf(second);
            }
            return sum;
        }

        int keepOnly(long held) {
            int before = size();
            there &= held;
            return before - size();
        }

        int countParents() {
            int count = 0;
            for (int c = 0; c < made; c++) {
                count += parentOf(c, 0) == NONE ? 0 : 1;
                count += parentOf(c, 1) == NONE ? 0 : 1;
            }
            return count;
        }
    }

    /** The branches and their logs. */
    private static final class Branches {
        private static final int USUAL_ENTRIES = 16;
        int present;
        private final int[] tips = new int[BRANCHES];
        private final int[][] logs = new int[BRANCHES][USUAL_ENTRIES];
        private final int[] logged = new int[BRANCHES];

        Branches() {
            for (int b = 0; b < tips.length; b++) {
                tips[b] = NONE;
            }
        }

        int tip(int branch) {
            return entryOf(tips, branch);
        }

        int head() {
            return entryOf(tips, present);
        }

        boolean isThere(int branch) {
            return branch == present || tip(branch) != NONE;
        }

        int size() {
            int count = 0;
            for (int b = 0; b < BRANCHES; b++) {
                count += isThere(b) ? 1 : 0;
            }
            return count;
        }

        /** The entry of a log, 0 for the latest one, or NONE. */
        int entry(int branch, int place) {
            if (branch < 0 || branch >= BRANCHES || place < 0) {
                return NONE;
            }
            return place >= logged[branch] ? NONE : entryOf(logs[branch], logged[branch] - 1 - place);
        }

        void give(int branch, int commit) {
            if (branch < 0 || branch >= BRANCHES || tips[branch] == commit) {
                return;
            }
            tips[branch] = commit;
            int used = logged[branch];
            if (used >= logs[branch].length && used < MOST_ENTRIES) {
                logs[branch] = Arrays.copyOf(logs[branch], 2 * used);
            }
            int[] log = logs[branch];
            if (used >= log.length) {
                // Only behind the last call that the document speaks of: the oldest entry makes room.
                used = log.length - 1;
                System.arraycopy(log, 1, log, 0, used);
            }
            log[used] = commit;
            logged[branch] = used + 1;
        }

        void remove(int branch) {
            if (branch >= 0 && branch < BRANCHES) {
                tips[branch] = NONE;
                logged[branch] = 0;
            }
        }
    }

    /** Follows a line of the head to the commit to which it is due; commit, file and place tell where it is. */
    private static final class Blame {
        int commit;
        int file;
        int place;
        private final Graph graph;
        private final Compare compare;
        private final int[] moves = new int[FILES];

        Blame(Graph graph, Compare compare) {
            this.graph = graph;
            this.compare = compare;
        }

        void trace(int fromCommit, int fromFile, int fromPlace) {
            commit = fromCommit;
            file = fromFile;
            place = fromPlace;
            boolean goes = true;
            for (int step = 0; step < MOST_COMMITS && goes; step++) {
                goes = goesOn();
            }
        }

        /** Goes to the first parent that has the line, and tells whether there is one. */
        boolean goesOn() {
            return goesTo(graph.parentOf(commit, 0)) || goesTo(graph.parentOf(commit, 1));
        }

        private boolean goesTo(int parent) {
            Tree old = graph.treeOf(parent);
            Tree now = graph.treeOf(commit);
            int source = old.has(file) ? file : NONE;
            if (source == NONE) {
                compare.findMoves(old, now, moves);
                for (int f = 0; f < moves.length; f++) {
                    source = moves[f] == file ? f : source;
                }
            }
            if (!old.has(source) || !now.has(file)) {
                return false;
            }
            int from = place;
            if (old.files[source] != now.files[file]) {
                compare.partners(old.files[source], now.files[file]);
                from = entryOf(compare.back, place);
            }
            if (from == NONE) {
                return false;
            }
            commit = parent;
            file = source;
            place = from;
            return true;
        }
    }

    /** The search for the first bad commit; no candidates, if nothing is searched. */
    private static final class Hunt {
        int lastBad = NONE;
        private long candidates;
        private long passed;

        void begin(long all, int bad) {
            candidates = all;
            passed = 0L;
            lastBad = bad;
        }

        void end() {
            candidates = 0L;
            passed = 0L;
            lastBad = NONE;
        }

        int size() {
            return Long.bitCount(candidates);
        }

        boolean isCandidate(int commit) {
            return commit >= 0 && commit < MOST_COMMITS && (candidates >> commit & 1L) != 0;
        }

        void good(long reached) {
            candidates &= ~reached;
        }

        void bad(int commit, long reached) {
            candidates &= reached;
            lastBad = commit;
        }

        void passOver(int commit) {
            passed |= 1L << commit;
        }

        int best(Graph graph) {
            int best = NONE;
            int most = NONE;
            for (int c = 0; c < MOST_COMMITS; c++) {
                if (!isCandidate(c) || (passed >> c & 1L) != 0 || c == lastBad) {
                    continue;
                }
                int reached = Long.bitCount(candidates & graph.reachOf(c));
                int others = size() - reached;
                int lesser = reached < others ? reached : others;
                if (lesser > most) {
                    most = lesser;
                    best = c;
                }
            }
            return best;
        }
    }
}
