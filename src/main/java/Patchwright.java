import java.util.Arrays;
import java.util.NoSuchElementException;

/** A store of versions. Its words and promises are those of ../shared/DOC.md. */
public final class Patchwright {
    private static final int NONE = -1;
    private static final int FILES = 6;
    private static final int BRANCHES = 6;
    private static final int MOST_COMMITS = 60;
    private static final int TOP_LINE = 99;
    private static final int OURS_MARK = 100;
    private static final int THEIRS_MARK = 101;
    private static final int END_MARK = 102;
    private static final int LINES = END_MARK + 1;
    private static final int FULL_FILE = 40;
    private static final int LATE_ENTRIES = 3;
    private static final int SUM_START = 7;
    private static final int SUM_FACTOR = 31;
    private static final int SUM_FILE = 1000;

    private static final int MOST_PAIRS = 520;
    private static final int MOST_ENTRIES = 1024;
    private static final int MOST_CONFLICTS = 48;
    private static final int MOST_TURNS = 1 << 19;
    private static final int MOST_INT = 0x7FFFFFFF;
    private static final int WORD = 64;
    // Lengths are counted up to here: 60 commits double 40 lines to some 2 to the 62.
    private static final long MOST_LENGTH = 0x7FFFFFFFFFFFFFFFL;

    private static final char NOTHING = '-';
    private static final char MERGE = 'm';
    private static final char PICK = 'p';
    private static final char TAKING_BACK = 't';

    private final Texts store;
    private final Compare compare;
    private final TextMerge merging;
    private final TreeMerge joiner;
    private final Graph graph;
    private final Blame blamed;
    private final Tree working = new Tree();
    private final Tree index = new Tree();
    private final Tree base = new Tree();
    private final int[] lowBases = new int[MOST_COMMITS];
    private final int[] highBases = new int[MOST_COMMITS];
    private final Tree[] drafts = new Tree[MOST_COMMITS];
    private final int[] drafted = new int[MOST_COMMITS];
    private char waiting = NOTHING;
    private int waitingOther = NONE;
    private int waitingLabel = NONE;

    public Patchwright() {
        Texts storing = new Texts();
        Compare comparing = new Compare(storing);
        TextMerge joining = new TextMerge(storing, comparing);
        Graph made = new Graph();
        store = storing;
        compare = comparing;
        merging = joining;
        joiner = new TreeMerge(storing.none, comparing, joining);
        graph = made;
        blamed = new Blame(made, storing, comparing);
        for (int i = 0; i < drafts.length; i++) {
            drafts[i] = new Tree();
        }
    }

    // ---- the working copy and the index

    public int make(int file) throws IndexOutOfBoundsException, IllegalStateException {
        needFile(file);
        if (working.has(file)) {
            throw new IllegalStateException("the file is there");
        }
        working.put(file, store.none);
        return working.size();
    }

    public int insert(int file, int place, int line) throws IndexOutOfBoundsException, NoSuchElementException,
            IllegalArgumentException, IllegalStateException {
        needFile(file);
        Text text = textIn(working, file);
        if (place < 0 || place > text.length || line < 0 || line > TOP_LINE) {
            throw new IllegalArgumentException("no such place, or the line is out of range");
        }
        if (text.length >= FULL_FILE) {
            throw new IllegalStateException("the file is full");
        }
        store.begin();
        store.addPart(text, 0, place);
        store.add(line);
        store.addPart(text, place, text.length);
        working.put(file, store.finish());
        return text.size() + 1;
    }

    public int cut(int file, int place) throws IndexOutOfBoundsException, NoSuchElementException {
        needFile(file);
        Text text = textIn(working, file);
        int line = lineIn(text, place);
        store.begin();
        store.addPart(text, 0, place);
        store.addPart(text, place + 1L, text.length);
        working.put(file, store.finish());
        return line;
    }

    public int drop(int file) throws IndexOutOfBoundsException, NoSuchElementException {
        needFile(file);
        Text text = textIn(working, file);
        working.put(file, null);
        return text.size();
    }

    public int rename(int file, int to) throws IndexOutOfBoundsException, NoSuchElementException,
            IllegalStateException {
        needFile(file);
        needFile(to);
        Text text = textIn(working, file);
        if (working.has(to)) {
            throw new IllegalStateException("the other file is there");
        }
        working.put(file, null);
        working.put(to, text);
        return text.size();
    }

    public boolean stage(int file) throws IndexOutOfBoundsException {
        needFile(file);
        boolean changes = index.get(file) != working.get(file);
        index.put(file, working.get(file));
        return changes;
    }

    public boolean restore(int file) throws IndexOutOfBoundsException {
        needFile(file);
        boolean changes = working.get(file) != index.get(file);
        working.put(file, index.get(file));
        return changes;
    }

    public char change(int file) throws IndexOutOfBoundsException {
        needFile(file);
        return difference(index.get(file), working.get(file));
    }

    public char staged(int file) throws IndexOutOfBoundsException {
        needFile(file);
        return difference(headTree().get(file), index.get(file));
    }

    public int lines(int file) throws IndexOutOfBoundsException, NoSuchElementException {
        needFile(file);
        return textIn(working, file).size();
    }

    public int lineAt(int file, int place) throws IndexOutOfBoundsException, NoSuchElementException {
        needFile(file);
        return lineIn(textIn(working, file), place);
    }

    // ---- commits

    public int commit(int label) throws IllegalArgumentException, UnsupportedOperationException,
            IllegalStateException {
        needLabel(label);
        if (index.hasMark()) {
            throw new UnsupportedOperationException("the index has a mark");
        }
        boolean nothingNew = waiting != MERGE && index.isSame(headTree());
        if (nothingNew || graph.isFull()) {
            throw new IllegalStateException("nothing to commit, or no commits are left");
        }
        int other = waiting == MERGE ? waitingOther : NONE;
        int made = graph.add(index, graph.head(), other, waiting == PICK ? waitingLabel : label);
        graph.give(graph.present, made);
        stopWaiting();
        return made;
    }

    public int linesOf(int commit, int file) throws IndexOutOfBoundsException, NoSuchElementException {
        needFile(file);
        needCommit(commit);
        return textIn(graph.treeOf(commit), file).size();
    }

    public int lineOf(int commit, int file, int place) throws IndexOutOfBoundsException, NoSuchElementException {
        needFile(file);
        needCommit(commit);
        return lineIn(textIn(graph.treeOf(commit), file), place);
    }

    public int parent(int commit, int which) throws NoSuchElementException {
        needCommit(commit);
        int found = graph.parentOf(commit, which);
        if (found == NONE) {
            throw new NoSuchElementException("no such parent");
        }
        return found;
    }

    public int label(int commit) throws NoSuchElementException {
        needCommit(commit);
        return graph.labelOf(commit);
    }

    public boolean reaches(int commit, int other) throws NoSuchElementException {
        needCommit(commit);
        needCommit(other);
        return graph.doesReach(commit, other);
    }

    public int bases(int commit, int other) throws NoSuchElementException {
        needCommit(commit);
        needCommit(other);
        return Long.bitCount(graph.basesOf(commit, other));
    }

    public int matched(int commit, int other, int file) throws IndexOutOfBoundsException, NoSuchElementException {
        needFile(file);
        needCommit(commit);
        needCommit(other);
        Text first = textIn(graph.treeOf(commit), file);
        Text second = textIn(graph.treeOf(other), file);
        return (int) Math.min(compare.match(first, second, 0L).common, MOST_INT);
    }

    public int movedTo(int commit, int other, int file) throws IndexOutOfBoundsException, NoSuchElementException {
        needFile(file);
        needCommit(commit);
        needCommit(other);
        int[] targets = new int[FILES];
        compare.findMoves(graph.treeOf(commit), graph.treeOf(other), targets);
        int target = entryOf(targets, file);
        if (target == NONE) {
            throw new NoSuchElementException("no such move");
        }
        return target;
    }

    // ---- branches

    public int branch(int branch) throws IndexOutOfBoundsException, IllegalStateException {
        needBranchNumber(branch);
        if (graph.hasBranch(branch) || graph.head() == NONE) {
            throw new IllegalStateException("the branch is there, or there is no head");
        }
        graph.give(branch, graph.head());
        return graph.countBranches();
    }

    public int switchTo(int branch) throws IndexOutOfBoundsException, NoSuchElementException,
            IllegalStateException {
        needBranch(branch);
        if (waiting != NOTHING || !isClean()) {
            throw new IllegalStateException("something waits, or the working copy is not clean");
        }
        int before = graph.present;
        graph.present = branch;
        takeTree(headTree());
        return before;
    }

    public int unbranch(int branch) throws IndexOutOfBoundsException, NoSuchElementException,
            IllegalStateException {
        needBranch(branch);
        if (branch == graph.present) {
            throw new IllegalStateException("it is the present branch");
        }
        graph.dropBranch(branch);
        return graph.countBranches();
    }

    public int reset(int commit) throws NoSuchElementException {
        needCommit(commit);
        int before = graph.head();
        moveTo(commit);
        stopWaiting();
        return before;
    }

    public int headOf(int branch) throws IndexOutOfBoundsException, NoSuchElementException {
        return tipOf(branch);
    }

    public int logAt(int branch, int place) throws IndexOutOfBoundsException, NoSuchElementException {
        needBranch(branch);
        int entry = graph.entry(branch, place);
        if (entry == NONE) {
            throw new NoSuchElementException("the log has no such entry");
        }
        return entry;
    }

    // ---- merging, picking, taking back and putting onto

    public char merge(int branch, int label) throws IndexOutOfBoundsException, NoSuchElementException,
            IllegalArgumentException, IllegalStateException {
        int other = tipOf(branch);
        needLabel(label);
        needReady();
        int head = graph.head();
        if (head != NONE && graph.doesReach(head, other)) {
            return 'u';
        }
        if (head == NONE || graph.doesReach(other, head)) {
            moveTo(other);
            return 'f';
        }
        for (int pair = findBases(head, other) - 1; pair >= 0 && pair < MOST_COMMITS; pair--) {
            joiner.join(base, graph.treeOf(lowBases[pair]), graph.treeOf(highBases[pair]), false);
            base.copy(joiner.merged);
        }
        joiner.join(base, headTree(), graph.treeOf(other), true);
        if (joiner.found > 0) {
            waitFor(MERGE, other, label);
            return 'c';
        }
        moveTo(graph.add(joiner.merged, head, other, label));
        return 'm';
    }

    public char pick(int commit) throws NoSuchElementException, IllegalStateException {
        needCommit(commit);
        needReady();
        needHead();
        joiner.join(graph.treeOf(graph.parentOf(commit, 0)), headTree(), graph.treeOf(commit), true);
        return takeChange(PICK, graph.labelOf(commit));
    }

    public char takeBack(int commit, int label) throws NoSuchElementException, IllegalArgumentException,
            IllegalStateException {
        needCommit(commit);
        needLabel(label);
        needReady();
        needHead();
        joiner.join(graph.treeOf(commit), headTree(), graph.treeOf(graph.parentOf(commit, 0)), true);
        return takeChange(TAKING_BACK, label);
    }

    public char putOnto(int branch) throws IndexOutOfBoundsException, NoSuchElementException,
            IllegalStateException {
        int other = tipOf(branch);
        needHead();
        if (waiting != NOTHING || !isClean()) {
            throw new IllegalStateException("something waits, or the working copy is not clean");
        }
        int head = graph.head();
        if (graph.doesReach(head, other)) {
            return 'u';
        }
        if (graph.doesReach(other, head)) {
            moveTo(other);
            return 'f';
        }
        long left = graph.reachOf(head) & ~graph.reachOf(other);
        Tree ours = graph.treeOf(other);
        int picks = 0;
        for (int c = 0; c < graph.made; c++) {
            if ((left >> c & 1L) == 0 || graph.parentOf(c, 1) != NONE) {
                continue;
            }
            joiner.join(graph.treeOf(graph.parentOf(c, 0)), ours, graph.treeOf(c), true);
            if (joiner.found > 0) {
                return 'c';
            }
            if (!joiner.merged.isSame(ours) && picks < drafts.length && picks < drafted.length) {
                drafts[picks].copy(joiner.merged);
                drafted[picks] = c;
                ours = drafts[picks];
                picks++;
            }
        }
        if (graph.made + picks > MOST_COMMITS) {
            throw new IllegalStateException("more commits would be made than there may be");
        }
        int last = other;
        for (int i = 0; i < picks && i < drafts.length && i < drafted.length; i++) {
            last = graph.add(drafts[i], last, NONE, graph.labelOf(drafted[i]));
        }
        moveTo(last);
        return 'm';
    }

    public char waits() {
        return waiting;
    }

    public int giveUp() throws IllegalStateException {
        if (waiting == NOTHING) {
            throw new IllegalStateException("nothing waits");
        }
        takeTree(headTree());
        stopWaiting();
        return joiner.found;
    }

    public int conflicts() {
        return waiting == NOTHING ? 0 : joiner.found;
    }

    public char kindOf(int conflict) throws NoSuchElementException {
        needConflict(conflict);
        return joiner.kindAt(conflict);
    }

    public int fileOf(int conflict) throws NoSuchElementException {
        needConflict(conflict);
        return joiner.fileAt(conflict);
    }

    public int settle(int file, char way) throws IndexOutOfBoundsException, NoSuchElementException,
            IllegalArgumentException, UnsupportedOperationException {
        needFile(file);
        Text text = textIn(working, file);
        if (way != 'o' && way != 't' && way != 'b' && way != 'n') {
            throw new IllegalArgumentException("no such way");
        }
        long start = store.find(text, OURS_MARK, 0L, false);
        long middle = start == NONE ? NONE : store.find(text, THEIRS_MARK, start + 1, false);
        long end = middle == NONE ? NONE : store.find(text, END_MARK, middle + 1, false);
        if (end == NONE) {
            throw new UnsupportedOperationException("the file has no mark region");
        }
        Text ours = store.partOf(text, start + 1, middle);
        Text theirs = store.partOf(text, middle + 1, end);
        Text became = wayOut(ours, theirs, way);
        merging.remember(ours, theirs, became);
        store.begin();
        store.addPart(text, 0L, start);
        store.addPart(became, 0L, became.length);
        store.addPart(text, end + 1, text.length);
        Text settled = store.finish();
        working.put(file, settled);
        return settled.size();
    }

    public int remembered() {
        return merging.pairs;
    }

    // ---- blame and search

    public int blame(int file, int place) throws IndexOutOfBoundsException, NoSuchElementException {
        needFile(file);
        int head = graph.head();
        if (head == NONE) {
            throw new NoSuchElementException("there is no head");
        }
        lineIn(textIn(graph.treeOf(head), file), place);
        blamed.begin();
        blamed.add(head, file, place, 1L);
        blamed.follow(0, true);
        return blamed.last;
    }

    public int search(int good, int bad) throws NoSuchElementException, IllegalStateException {
        needCommit(good);
        needCommit(bad);
        if (good == bad || !graph.doesReach(bad, good)) {
            throw new IllegalStateException("the bad one does not reach the good one, or is the same");
        }
        graph.beginHunt(graph.reachOf(bad) & ~graph.reachOf(good), bad);
        return graph.huntSize();
    }

    public int next() throws NoSuchElementException {
        int best = graph.bestCandidate();
        if (best == NONE) {
            throw new NoSuchElementException("nothing is searched, or there is no candidate to try");
        }
        return best;
    }

    public int tell(int commit, char how) throws NoSuchElementException, IllegalArgumentException,
            UnsupportedOperationException {
        if (!graph.isCandidate(commit)) {
            throw new NoSuchElementException("nothing is searched, or it is no candidate");
        }
        if (how != 'g' && how != 'b' && how != 's') {
            throw new IllegalArgumentException("no such word");
        }
        if (how != 'b' && commit == graph.lastBad) {
            throw new UnsupportedOperationException("it is the last bad one");
        }
        if (how == 'g') {
            graph.ruleOut(commit);
        } else if (how == 'b') {
            graph.keepToBad(commit);
        } else {
            graph.passOver(commit);
        }
        return graph.huntSize();
    }

    // ---- the whole store

    public int collect() {
        long held = waiting == MERGE ? graph.reachOf(waitingOther) : 0L;
        for (int b = 0; b < BRANCHES; b++) {
            held |= graph.reachOf(graph.tip(b));
            for (int place = 0; place < LATE_ENTRIES; place++) {
                held |= graph.reachOf(graph.entry(b, place));
            }
        }
        graph.endHunt();
        return graph.keepOnly(held);
    }

    public int commits() {
        return graph.size();
    }

    public int texts() {
        int different = 0;
        int stamp = store.newStamp();
        for (int c = 0; c < graph.made; c++) {
            if (graph.isThere(c)) {
                different += graph.treeOf(c).stampAll(stamp);
            }
        }
        return different;
    }

    public long sum(int commit) throws NoSuchElementException {
        needCommit(commit);
        return graph.sumOf(commit);
    }

    public float share(int commit) throws NoSuchElementException, ArithmeticException {
        needCommit(commit);
        int head = graph.head();
        if (head == NONE) {
            throw new NoSuchElementException("there is no head");
        }
        blamed.begin();
        addHead(head);
        if (!blamed.hasLines()) {
            throw new ArithmeticException("the head has no lines");
        }
        blamed.follow(commit, true);
        return blamed.dueTo(commit) / blamed.allLines();
    }

    public double meanParents() throws ArithmeticException {
        int count = graph.size();
        if (count == 0) {
            throw new ArithmeticException("there are no commits");
        }
        return (double) graph.countParents() / (double) count;
    }

    public boolean isSound() {
        if (!areParentsSound() || !areBranchesSound()) {
            return false;
        }
        int head = graph.head();
        blamed.begin();
        addHead(head);
        blamed.follow(0, false);
        return blamed.sound;
    }

    // ---- what the calls above share

    private static void needFile(int file) {
        if (file < 0 || file >= FILES) {
            throw new IndexOutOfBoundsException("no such file number");
        }
    }

    private static void needLabel(int label) {
        if (label < 0) {
            throw new IllegalArgumentException("the label is less than 0");
        }
    }

    private static void needBranchNumber(int branch) {
        if (branch < 0 || branch >= BRANCHES) {
            throw new IndexOutOfBoundsException("no such branch number");
        }
    }

    private void needBranch(int branch) {
        needBranchNumber(branch);
        if (!graph.hasBranch(branch)) {
            throw new NoSuchElementException("the branch is not there");
        }
    }

    private int tipOf(int branch) {
        needBranchNumber(branch);
        int tip = graph.tip(branch);
        if (tip == NONE) {
            throw new NoSuchElementException("the branch is not there or has no commit");
        }
        return tip;
    }

    private void needCommit(int commit) {
        if (!graph.isThere(commit)) {
            throw new NoSuchElementException("no such commit, or it was collected");
        }
    }

    private void needConflict(int conflict) {
        if (waiting == NOTHING || conflict < 0 || conflict >= joiner.found) {
            throw new NoSuchElementException("no such conflict");
        }
    }

    private void needReady() {
        if (waiting != NOTHING || !isClean() || graph.isFull()) {
            throw new IllegalStateException("something waits, or is not clean, or no commits are left");
        }
    }

    private void needHead() {
        if (graph.head() == NONE) {
            throw new IllegalStateException("there is no head");
        }
    }

    private static Text textIn(Tree tree, int file) {
        Text text = tree.get(file);
        if (text == null) {
            throw new NoSuchElementException("no such file");
        }
        return text;
    }

    private static int lineIn(Text text, int place) {
        int line = text.at(place);
        if (line == NONE) {
            throw new NoSuchElementException("no such line");
        }
        return line;
    }

    private static char difference(Text before, Text now) {
        if (before == now) {
            return '-';
        }
        if (before == null) {
            return 'n';
        }
        return now == null ? 'g' : 'c';
    }

    /** Lets all lines of the head be followed. */
    private void addHead(int head) {
        Tree tree = graph.treeOf(head);
        for (int file = 0; file < FILES; file++) {
            blamed.add(head, file, 0L, tree.has(file) ? textIn(tree, file).length : 0L);
        }
    }

    private Tree headTree() {
        return graph.treeOf(graph.head());
    }

    private boolean isClean() {
        Tree head = headTree();
        return working.isSame(head) && index.isSame(head);
    }

    private void takeTree(Tree tree) {
        working.copy(tree);
        index.copy(tree);
    }

    private void moveTo(int commit) {
        graph.give(graph.present, commit);
        takeTree(graph.treeOf(commit));
    }

    private void waitFor(char kind, int other, int label) {
        waiting = kind;
        waitingOther = other;
        waitingLabel = label;
        takeTree(joiner.merged);
    }

    private void stopWaiting() {
        waiting = NOTHING;
        waitingOther = NONE;
        waitingLabel = NONE;
    }

    /** Goes down the pairs of bases of two commits, puts the lowest base tree into base and returns their number. */
    private int findBases(int commit, int other) {
        long bases = graph.basesOf(commit, other);
        int pairs = 0;
        while (pairs < lowBases.length && pairs < highBases.length && Long.bitCount(bases) > 1) {
            lowBases[pairs] = lowest(bases);
            highBases[pairs] = lowest(bases & (bases - 1));
            bases = graph.basesOf(lowBases[pairs], highBases[pairs]);
            pairs++;
        }
        base.copy(graph.treeOf(lowest(bases)));
        return pairs;
    }

    /** Takes over what was merged for a pick or a taking back. */
    private char takeChange(char kind, int label) {
        int head = graph.head();
        if (joiner.found > 0) {
            waitFor(kind, NONE, label);
            return 'c';
        }
        if (joiner.merged.isSame(graph.treeOf(head))) {
            return 'e';
        }
        moveTo(graph.add(joiner.merged, head, NONE, label));
        return 'm';
    }

    private Text wayOut(Text ours, Text theirs, char way) {
        store.begin();
        if (way == 'o' || way == 'b') {
            store.addPart(ours, 0L, ours.length);
        }
        if (way == 't' || way == 'b') {
            store.addPart(theirs, 0L, theirs.length);
        }
        return store.finish();
    }

    private boolean areParentsSound() {
        for (int c = 0; c < graph.made; c++) {
            for (int which = 0; which < 2 && graph.isThere(c); which++) {
                int above = graph.parentOf(c, which);
                if (above != NONE && (above >= c || !graph.isThere(above))) {
                    return false;
                }
            }
        }
        return true;
    }

    private boolean areBranchesSound() {
        for (int b = 0; b < BRANCHES; b++) {
            int tip = graph.tip(b);
            if (tip != NONE && !graph.isThere(tip)) {
                return false;
            }
            for (int place = 0; place < LATE_ENTRIES; place++) {
                int entry = graph.entry(b, place);
                if (entry != NONE && !graph.isThere(entry)) {
                    return false;
                }
            }
        }
        return true;
    }

    private static int lowest(long mask) {
        for (int c = 0; c < MOST_COMMITS; c++) {
            if ((mask >> c & 1L) != 0) {
                return c;
            }
        }
        return NONE;
    }

    private static int entryOf(int[] row, int place) {
        return place < 0 || place >= row.length ? NONE : row[place];
    }

    private static byte[] withRoom(byte[] row, int need) {
        return need <= row.length ? row : new byte[Math.max(need, 2 * row.length)];
    }

    private static long[] withRoom(long[] row, int need) {
        return need <= row.length ? row : new long[Math.max(need, 2 * row.length)];
    }

    // ---- the parts of the store

    /**
     * A text, never changed: a line, or its kids one behind the other, or its only kid several times. Equal texts are
     * one object (Texts sees to it), so == compares them; and what stands in a text again and again takes room once.
     */
    private static final class Text {
        final int rank;
        final int hash;
        final int line;
        final Text[] kids;
        final long count;
        final int level;
        final long length;
        final long factor;
        final long addend;
        final long ones;
        Text link;
        int stamp;
        long spot;
        private final long lowLines;
        private final long highLines;

        Text(int rank, int hash, int line, Text[] kids, long count) {
            this.rank = rank;
            this.hash = hash;
            this.line = line;
            this.kids = kids;
            this.count = count;
            boolean single = line >= 0;
            long size = single ? 1L : 0L;
            long times = single ? SUM_FACTOR : 1L;
            long plus = single ? line : 0L;
            long low = single && line < WORD ? 1L << line : 0L;
            long high = line >= WORD ? 1L << (line - WORD) : 0L;
            long found = line == 1 ? 1L : 0L;
            for (int k = 0; k < kids.length; k++) {
                size = size > MOST_LENGTH - kids[k].length ? MOST_LENGTH : size + kids[k].length;
                plus = plus * kids[k].factor + kids[k].addend;
                times *= kids[k].factor;
                found += kids[k].ones;
                low |= kids[k].lowLines;
                high |= kids[k].highLines;
            }
            long allTimes = 1L;
            long allPlus = 0L;
            for (long left = count; left > 0; left >>= 1) {
                if ((left & 1L) != 0) {
                    allPlus = allPlus * times + plus;
                    allTimes *= times;
                }
                plus = plus * times + plus;
                times *= times;
            }
            int below = kids.length == 0 ? NONE : kids[0].level;
            level = count > 1 ? below + 1 : (below | 1) + 1;
            length = size > 0 && count > MOST_LENGTH / size ? MOST_LENGTH : size * count;
            factor = allTimes;
            addend = allPlus;
            ones = found * count;
            lowLines = low;
            highLines = high;
        }

        /** The number of lines, as far as an int can tell it. */
        int size() {
            return (int) Math.min(length, MOST_INT);
        }

        boolean has(int wanted) {
            return (wanted < WORD ? lowLines >> wanted & 1L : highLines >> (wanted - WORD) & 1L) != 0;
        }

        boolean hasAllOf(Text other) {
            return (other.lowLines & ~lowLines | other.highLines & ~highLines) == 0;
        }

        boolean hasMark() {
            return has(OURS_MARK) || has(THEIRS_MARK) || has(END_MARK);
        }

        /** A place to part it at, between kids, that is the same wherever this text stands. */
        long middle() {
            Text node = this;
            while (node.kids.length == 1 && node.count == 1) {
                node = node.kids[0];
            }
            if (node.count > 1 && node.kids.length > 0) {
                return node.kids[0].length * Long.highestOneBit(node.count - 1);
            }
            long place = 0L;
            for (int k = 0; k < (node.kids.length + 1) / 2; k++) {
                place += node.kids[k].length;
            }
            return place;
        }

        /** How many lines 1 there are ahead of a place. */
        long onesAhead(long place) {
            Text node = this;
            long off = Math.min(place, length);
            long found = 0L;
            while (node.kids.length > 0 && off > 0) {
                Text[] below = node.kids;
                int k = 0;
                if (node.count > 1 && below[0].length > 0) {
                    found += off / below[0].length * below[0].ones;
                    off %= below[0].length;
                }
                while (k < below.length - 1 && off >= below[k].length) {
                    off -= below[k].length;
                    found += below[k].ones;
                    k++;
                }
                node = below[k];
            }
            return found + (off > 0 ? node.ones : 0L);
        }

        /** The place of a line 1 that some of them are ahead of, or the length if there is none. */
        long placeOfOne(long ahead) {
            if (ahead >= ones) {
                return length;
            }
            Text node = this;
            long left = ahead;
            long place = 0L;
            while (node.kids.length > 0) {
                Text[] below = node.kids;
                int k = 0;
                if (node.count > 1 && below[0].ones > 0) {
                    place += left / below[0].ones * below[0].length;
                    left %= below[0].ones;
                }
                while (k < below.length - 1 && left >= below[k].ones) {
                    left -= below[k].ones;
                    place += below[k].length;
                    k++;
                }
                node = below[k];
            }
            return place;
        }

        int at(long place) {
            if (place < 0 || place >= length) {
                return NONE;
            }
            Text node = this;
            long off = place;
            while (node.kids.length > 0) {
                Text[] below = node.kids;
                int k = 0;
                if (node.count > 1 && below[0].length > 0) {
                    off %= below[0].length;
                }
                while (k < below.length - 1 && off >= below[k].length) {
                    off -= below[k].length;
                    k++;
                }
                node = below[k];
            }
            return node.line;
        }
    }

    /**
     * All texts that were ever made, each once; a new one is drafted from lines and parts of others. Equal neighbours
     * are put together first, then neighbours up to one that ranks lowest round about, and so on with what comes out:
     * so a text is put together in the same way wherever its lines come from, and but for its ends the same lines are
     * put together alike in all texts.
     */
    private static final class Texts {
        private static final int USUAL_BUCKETS = 256;
        private static final int USUAL_PARTS = 64;
        private static final int MOST_LEVELS = 200;
        private static final int PATH = 2;
        private static final int MOST_READS = 1 << 30;
        final Text none;
        private final Text[] single = new Text[LINES];
        private Text[] buckets = new Text[USUAL_BUCKETS];
        private int made;
        private int stamp;
        // the draft: a text from a place to another one; or, where that is NONE, a text several times
        private Text[] parts = new Text[USUAL_PARTS];
        private long[] froms = new long[USUAL_PARTS];
        private long[] tos = new long[USUAL_PARTS];
        private int drafted;
        // the same, with the ends of the parts unfolded to texts of one level
        private Text[] spread = new Text[USUAL_PARTS];
        private long[] spreadFroms = new long[USUAL_PARTS];
        private long[] spreadTos = new long[USUAL_PARTS];
        private int spreadCount;
        // where a way down into one text or two stands: at which text, how far into it, how often it follows there;
        // and behind these two the path down to a line: which texts, which kids of them, how often these are still to come
        private final Text[] at = new Text[PATH + MOST_LEVELS];
        private final long[] off = new long[PATH + MOST_LEVELS];
        private final long[] left = new long[PATH + MOST_LEVELS];
        private long blockFrom;
        private long blockTo;
        private long innerFrom;
        private long innerTo;

        Texts() {
            Text[] kids = new Text[0];
            none = new Text(0, 0, NONE, kids, 1L);
            for (int line = 0; line < LINES; line++) {
                single[line] = new Text(rankOf(line + 1), 0, line, kids, 1L);
            }
            made = LINES + 1;
        }

        /** A number of its own for each number, without any order, so that lowest ones stand close together. */
        private static int rankOf(int number) {
            int rank = number * 0x9E3779B1;
            rank ^= rank >>> 16;
            rank *= 0x85EBCA6B;
            return rank ^ rank >>> 13;
        }

        int newStamp() {
            stamp++;
            return stamp;
        }

        // ---- drafting

        void begin() {
            drafted = 0;
        }

        void add(int line) {
            if (line >= 0 && line < LINES) {
                draft(single[line], 1L, NONE);
            }
        }

        void addTimes(int line, long times) {
            if (line >= 0 && line < LINES && times > 0) {
                draft(single[line], times, NONE);
            }
        }

        void addPart(Text text, long from, long to) {
            if (from < 0 || from >= to || to > text.length) {
                return;
            }
            int last = drafted - 1;
            if (last >= 0 && last < tos.length && parts[last] == text && tos[last] == from) {
                tos[last] = to;
            } else {
                draft(text, from, to);
            }
        }

        Text partOf(Text text, long from, long to) {
            begin();
            addPart(text, from, to);
            return finish();
        }

        private void draft(Text text, long from, long to) {
            if (drafted >= parts.length) {
                Text[] more = new Text[2 * parts.length];
                for (int k = 0; k < parts.length; k++) {
                    more[k] = parts[k];
                }
                parts = more;
                froms = Arrays.copyOf(froms, 2 * drafted);
                tos = Arrays.copyOf(tos, 2 * drafted);
            }
            if (drafted >= 0 && drafted < parts.length) {
                parts[drafted] = text;
                froms[drafted] = from;
                tos[drafted] = to;
                drafted++;
            }
        }

        Text finish() {
            for (int level = 0; level < MOST_LEVELS && drafted > 0; level += 2) {
                spreadCount = 0;
                for (int k = 0; k < drafted && k < parts.length; k++) {
                    Text part = parts[k];
                    if (tos[k] == NONE) {
                        spreadOut(part, froms[k], NONE);
                        continue;
                    }
                    findInner(part, froms[k], tos[k], level);
                    if (innerFrom < innerTo) {
                        unfold(part, froms[k], innerFrom, level);
                        spreadOut(part, innerFrom, innerTo);
                        unfold(part, innerTo, tos[k], level);
                    } else {
                        unfold(part, froms[k], tos[k], level);
                    }
                }
                if (spreadCount == 1 && spreadTos[0] == NONE) {
                    return spreadFroms[0] > 1 ? kept(0, 1, spreadFroms[0]) : spread[0];
                }
                gather();
            }
            return none;
        }

        /**
         * Finds what of a part is put together two levels above as it is in the text of the part, whatever stands
         * beside it: all but what belongs to two texts of that level at either end.
         */
        private void findInner(Text text, long from, long to, int level) {
            goDown(text, from, level);
            innerFrom = Math.min(blockTo, to);
            if (innerFrom < to) {
                goDown(text, innerFrom, level);
                innerFrom = Math.min(blockTo, to);
            }
            goDown(text, to - 1, level);
            innerTo = Math.max(blockFrom, from);
            if (innerTo > from) {
                goDown(text, innerTo - 1, level);
                innerTo = Math.max(blockFrom, from);
            }
        }

        /** Spreads out the texts of a level that a part is made of. */
        private void unfold(Text text, long from, long to, int level) {
            long place = from;
            for (int turn = 0; turn < MOST_TURNS && place < to; turn++) {
                goDown(text, place, level);
                long size = at[0].length;
                long copies = size > 0 ? Math.min(left[0], (to - place) / size) : 0L;
                if (copies < 1) {
                    return;
                }
                spreadOut(at[0], copies, NONE);
                place += copies * size;
            }
        }

        /** Spreads out a text from a place to another one; or, where that is NONE, a text several times. */
        private void spreadOut(Text text, long from, long to) {
            int place = spreadCount;
            int last = place - 1;
            if (to == NONE && last >= 0 && last < spread.length && spread[last] == text && spreadTos[last] == NONE) {
                spreadFroms[last] = spreadFroms[last] > MOST_LENGTH - from ? MOST_LENGTH : spreadFroms[last] + from;
                return;
            }
            if (place >= spread.length) {
                Text[] more = new Text[2 * spread.length];
                for (int k = 0; k < spread.length; k++) {
                    more[k] = spread[k];
                }
                spread = more;
                spreadFroms = Arrays.copyOf(spreadFroms, 2 * place);
                spreadTos = Arrays.copyOf(spreadTos, 2 * place);
            }
            if (place >= 0 && place < spread.length) {
                spread[place] = text;
                spreadFroms[place] = from;
                spreadTos[place] = to;
                spreadCount++;
            }
        }

        /** Puts what is spread out together, two levels up, and drafts what comes out. */
        private void gather() {
            drafted = 0;
            int begin = 0;
            while (begin < spreadCount && begin < spread.length) {
                if (spreadTos[begin] != NONE) {
                    draft(spread[begin], spreadFroms[begin], spreadTos[begin]);
                    begin++;
                    continue;
                }
                int end = begin;
                while (end < spreadCount && end < spread.length && spreadTos[end] == NONE) {
                    if (spreadFroms[end] > 1) {
                        spread[end] = kept(end, end + 1, spreadFroms[end]);
                        spreadFroms[end] = 1L;
                    }
                    end++;
                }
                for (int k = begin + 1, from = begin; k <= end; k++) {
                    boolean low = k > begin + 1 && k < end - 1 && spread[k - 1].rank > spread[k].rank
                            && spread[k].rank < spread[k + 1].rank;
                    if (low || k == end) {
                        draft(kept(from, k, 1L), 1L, NONE);
                        from = k;
                    }
                }
                begin = end;
            }
        }

        /** The text that is made of some of those that are spread out, several times. */
        private Text kept(int from, int to, long times) {
            if (from < 0 || to > spread.length || from >= to) {
                return none;
            }
            int hash = (int) (times ^ times >>> WORD / 2);
            for (int k = from; k < to; k++) {
                hash = hash * SUM_FACTOR + spread[k].rank;
            }
            hash ^= hash >>> 16;
            int bucket = hash & (buckets.length - 1);
            for (Text text = buckets[bucket]; text != null; text = text.link) {
                if (text.hash == hash && text.count == times && isSpread(text.kids, from, to)) {
                    return text;
                }
            }
            Text[] kids = new Text[to - from];
            for (int k = 0; k < kids.length; k++) {
                kids[k] = spread[from + k];
            }
            Text fresh = new Text(rankOf(made), hash, NONE, kids, times);
            fresh.link = buckets[bucket];
            buckets[bucket] = fresh;
            made++;
            if (made > 2 * buckets.length) {
                moreBuckets();
            }
            return fresh;
        }

        private boolean isSpread(Text[] kids, int from, int to) {
            if (kids.length != to - from) {
                return false;
            }
            for (int k = 0; k < kids.length; k++) {
                if (kids[k] != spread[from + k]) {
                    return false;
                }
            }
            return true;
        }

        private void moreBuckets() {
            Text[] more = new Text[4 * buckets.length];
            for (int b = 0; b < buckets.length; b++) {
                Text text = buckets[b];
                while (text != null) {
                    Text next = text.link;
                    int bucket = text.hash & (more.length - 1);
                    text.link = more[bucket];
                    more[bucket] = text;
                    text = next;
                }
            }
            buckets = more;
        }

        // ---- going down into texts

        /** Goes down a level, to the kid in which the place is; back counts all from the ends. */
        private void enter(int side, boolean back) {
            Text[] kids = at[side].kids;
            int last = kids.length - 1;
            if (last < 0) {
                return;
            }
            int k = 0;
            left[side] = 1L;
            if (at[side].count > 1 && kids[0].length > 0) {
                long over = off[side] / kids[0].length;
                off[side] -= over * kids[0].length;
                left[side] = at[side].count - over;
            }
            while (k < last && off[side] >= kids[back ? last - k : k].length) {
                off[side] -= kids[back ? last - k : k].length;
                k++;
            }
            at[side] = kids[back ? last - k : k];
        }

        private void start(int side, Text text, long from) {
            at[side] = text;
            off[side] = from;
            left[side] = 1L;
        }

        /** Goes down to the text of a level that stands at a place, and tells where the one two levels above stands. */
        private void goDown(Text text, long place, int level) {
            start(0, text, place);
            blockFrom = 0L;
            blockTo = text.length;
            for (int step = 0; step < MOST_LEVELS && at[0].level > level; step++) {
                if (at[0].level >= level + 2) {
                    blockFrom = place - off[0];
                    blockTo = blockFrom + at[0].length;
                }
                enter(0, false);
            }
        }

        /** How many lines are equal from two places on; back, ahead of them. */
        long common(Text one, long place, Text other, long otherPlace, boolean back) {
            long from = back ? one.length - place : place;
            long otherFrom = back ? other.length - otherPlace : otherPlace;
            long most = Math.min(one.length - from, other.length - otherFrom);
            long same = 0L;
            for (int turn = 0; turn < MOST_TURNS && same < most; turn++) {
                start(0, one, from + same);
                start(1, other, otherFrom + same);
                for (int step = 0; step < 2 * MOST_LEVELS && (off[0] > 0 || off[1] > 0); step++) {
                    enter(off[0] > 0 ? 0 : 1, back);
                }
                for (int step = 0; step < 2 * MOST_LEVELS && at[0] != at[1]; step++) {
                    if (at[0].length <= 1 && at[1].length <= 1) {
                        return same;
                    }
                    enter(at[0].length >= at[1].length ? 0 : 1, back);
                }
                if (at[0] != at[1]) {
                    return same;
                }
                same += Math.min(left[0], left[1]) * at[0].length;
            }
            return Math.min(same, most);
        }

        /** Reads some lines of a text into a row, and returns how many. It goes down to a line, and up to the next one. */
        int read(Text text, long from, byte[] row, int most) {
            int end = (int) Math.min(Math.min(most, row.length), text.length - from);
            int count = 0;
            int top = PATH;
            long place = from;
            at[top] = text;
            for (int turn = 0; turn < MOST_READS && count < end; turn++) {
                Text[] kids = at[top].kids;
                if (kids.length > 0 && top + 1 < at.length) {
                    int k = 0;
                    long over = place > 0 && at[top].count > 1 && kids[0].length > 0 ? place / kids[0].length : 0L;
                    place -= over * kids[0].length;
                    while (k < kids.length - 1 && place >= kids[k].length) {
                        place -= kids[k].length;
                        k++;
                    }
                    off[top] = k;
                    left[top] = at[top].count - over;
                    top++;
                    at[top] = kids[k];
                    continue;
                }
                row[count] = (byte) at[top].line;
                count++;
                boolean ends = true;
                while (top > PATH && ends) {
                    top--;
                    off[top]++;
                    if (off[top] >= at[top].kids.length) {
                        off[top] = 0L;
                        left[top]--;
                    }
                    ends = left[top] <= 0;
                }
                if (ends) {
                    return count;
                }
                top++;
                at[top] = at[top - 1].kids[(int) off[top - 1]];
            }
            return count;
        }

        /** The first place from a place on where a line stands; back, the last one ahead of it; or NONE. */
        long find(Text text, int line, long place, boolean back) {
            return findOneOf(text, oneLine(line), place, back);
        }

        Text oneLine(int line) {
            return line < 0 || line >= LINES ? none : single[line];
        }

        /** The same for all lines of a text, whichever is met first. */
        long findOneOf(Text text, Text lines, long place, boolean back) {
            long from = back ? text.length - place : place;
            for (int turn = 0; turn < MOST_TURNS && from >= 0 && from < text.length; turn++) {
                start(0, text, from);
                for (int step = 0; step < MOST_LEVELS && off[0] > 0; step++) {
                    enter(0, back);
                }
                if ((at[0].lowLines & lines.lowLines | at[0].highLines & lines.highLines) == 0) {
                    from += at[0].length * left[0];
                    continue;
                }
                Text node = at[0];
                while (node.kids.length > 0) {
                    int last = node.kids.length - 1;
                    int k = 0;
                    Text kid = node.kids[back ? last : 0];
                    while (k < last && (kid.lowLines & lines.lowLines | kid.highLines & lines.highLines) == 0) {
                        from += kid.length;
                        k++;
                        kid = node.kids[back ? last - k : k];
                    }
                    node = kid;
                }
                return back ? text.length - 1 - from : from;
            }
            return NONE;
        }
    }

    /** Texts of some files; a file that is not there has null. */
    private static final class Tree {
        private final Text[] files = new Text[FILES];

        Text get(int file) {
            return file < 0 || file >= files.length ? null : files[file];
        }

        boolean has(int file) {
            return file >= 0 && file < files.length && files[file] != null;
        }

        void put(int file, Text text) {
            if (file >= 0 && file < files.length) {
                files[file] = text;
            }
        }

        void clear() {
            for (int f = 0; f < files.length; f++) {
                files[f] = null;
            }
        }

        void copy(Tree other) {
            for (int f = 0; f < files.length && f < other.files.length; f++) {
                files[f] = other.files[f];
            }
        }

        boolean isSame(Tree other) {
            for (int f = 0; f < files.length && f < other.files.length; f++) {
                if (files[f] != other.files[f]) {
                    return false;
                }
            }
            return true;
        }

        int size() {
            int count = 0;
            for (int f = 0; f < files.length; f++) {
                count += files[f] == null ? 0 : 1;
            }
            return count;
        }

        boolean hasMark() {
            for (int f = 0; f < files.length; f++) {
                if (files[f] != null && files[f].hasMark()) {
                    return true;
                }
            }
            return false;
        }

        /** Puts a stamp on all texts and returns how many did not bear it yet. */
        int stampAll(int stamp) {
            int fresh = 0;
            for (int f = 0; f < files.length; f++) {
                if (files[f] != null && files[f].stamp != stamp) {
                    files[f].stamp = stamp;
                    fresh++;
                }
            }
            return fresh;
        }
    }

    /**
     * How two texts are matched: how many lines, and up to a place of the second text, rows of matched lines, each with
     * its places in the first and the second text.
     */
    private static final class Runs {
        private static final int USUAL = 16;
        private static final int MOST = 1 << 20;
        private static final int PARTS = 3;
        long common;
        // up to which place of the second text it is asked for, and told
        long wanted;
        long upTo;
        int count;
        // how much work it was
        int worth;
        boolean plain;
        // bits, 1 for the lines that are matched, or null if they were not needed yet
        Text firstMask;
        Text secondMask;
        private Text first;
        private Text second;
        private long[] row = new long[0];

        void begin(Text one, Text other, long end) {
            first = one;
            second = other;
            wanted = end;
            upTo = MOST_LENGTH;
            common = 0L;
            count = 0;
            worth = 0;
            plain = true;
            firstMask = null;
            secondMask = null;
        }

        boolean tells(Text one, Text other, long end) {
            return first == one && second == other && upTo >= end;
        }

        void add(long place, long otherPlace, long size) {
            common += size;
            int last = PARTS * (count - 1);
            if (last >= 0 && last + 2 < row.length && row[last] + row[last + 2] == place
                    && row[last + 1] + row[last + 2] == otherPlace) {
                row[last + 2] += size;
                return;
            }
            int next = PARTS * count;
            if (count < MOST && next + 2 >= row.length) {
                row = Arrays.copyOf(row, Math.max(PARTS * USUAL, 2 * row.length));
            }
            if (next + 2 < row.length) {
                row[next] = place;
                row[next + 1] = otherPlace;
                row[next + 2] = size;
                count++;
            }
        }

        Runs copy(Runs other) {
            begin(other.first, other.second, other.wanted);
            upTo = other.upTo;
            if (row.length < PARTS * other.count) {
                row = new long[PARTS * other.count];
            }
            System.arraycopy(other.row, 0, row, 0, PARTS * other.count);
            count = other.count;
            common = other.common;
            worth = other.worth;
            plain = other.plain;
            firstMask = other.firstMask;
            secondMask = other.secondMask;
            return this;
        }

        /** Takes over bits for the lines that are matched, and tells them as rows if these are not too many. */
        void takeMasks(Text inFirst, Text inSecond, int most, Texts texts) {
            long place = 0L;
            long otherPlace = 0L;
            for (int turn = 0; turn <= most && place != NONE && otherPlace != NONE && count < most; turn++) {
                place = texts.find(inFirst, 1, place, false);
                otherPlace = texts.find(inSecond, 1, otherPlace, false);
                if (place != NONE && otherPlace != NONE) {
                    long end = texts.find(inFirst, 0, place, false);
                    long otherEnd = texts.find(inSecond, 0, otherPlace, false);
                    long size = (end == NONE ? inFirst.length : end) - place;
                    size = Math.min(size, (otherEnd == NONE ? inSecond.length : otherEnd) - otherPlace);
                    add(place, otherPlace, size);
                    place += size;
                    otherPlace += size;
                }
            }
            plain = common == inFirst.ones;
            count = plain ? count : 0;
            common = inFirst.ones;
            firstMask = inFirst;
            secondMask = inSecond;
        }

        /** Takes over how many lines are matched, and nothing else. */
        void takeCount(long matched) {
            common = matched;
            upTo = wanted;
        }

        long lengthOf(boolean inSecond) {
            Text text = inSecond ? second : first;
            return text == null ? 0L : text.length;
        }

        /** Drafts the bits for the lines of a text that are matched, as the rows tell them. */
        void draftRows(boolean inSecond, Texts texts) {
            long place = 0L;
            texts.begin();
            for (int k = 0; k < count; k++) {
                long from = inSecond ? inSecond(k) : inFirst(k);
                long end = inSecond ? endInSecond(k) : endInFirst(k);
                texts.addTimes(0, from - place);
                texts.addTimes(1, end - from);
                place = end;
            }
            texts.addTimes(0, lengthOf(inSecond) - place);
        }

        private long part(int run, int which) {
            int place = PARTS * run + which;
            return run < 0 || run >= count || place >= row.length ? NONE : row[place];
        }

        long inFirst(int run) {
            return part(run, 0);
        }

        long inSecond(int run) {
            return part(run, 1);
        }

        long endInFirst(int run) {
            return part(run, 0) + part(run, 2);
        }

        long endInSecond(int run) {
            return part(run, 1) + part(run, 2);
        }

        /** The first row of lines that ends behind a place of the second text. */
        int firstBehind(long place) {
            int low = 0;
            int high = count;
            while (low < high) {
                int middle = (low + high) >>> 1;
                if (endInSecond(middle) > place) {
                    high = middle;
                } else {
                    low = middle + 1;
                }
            }
            return low;
        }
    }

    /**
     * Goes through two texts and matches them. Which line is to be passed over is known by one of three ways: by bits, a
     * row of them for each line of the first text; line by line, where one text stands in the other one as a whole; or
     * by steps, where one text, but for a few of its lines, stands in the other one, however long they are.
     */
    private static final class Matcher {
        private static final int USUAL = 64;
        private static final int BITS = 63;
        private static final int FEW_ROWS = 4;
        private static final int ROWS_READ = 1 << 12;
        private static final int TILE = 1 << 10;
        private static final int GROUP = 1 << 14;
        private static final int GRID = 8;
        private static final int PIECE = 1 << 27;
        private static final int MOST_LINES = 1 << 28;
        private static final int MOST_DEPTH = 240;
        private static final int MOST_PASSED = 1 << 16;
        private static final int GREEDY_TURNS = 1 << 6;
        private static final int GREEDY_LINES = 1 << 16;
        private static final int TOP_BIT = 1 << 7;
        // what one text that stands in the other one as a whole is gone through for: to see whether it does; for the bits
        // of the places in the other one where a line is matched at the latest; for those of the matched lines of either
        static final int TRYING = 0;
        static final int FROM_END = 1;
        static final int IN_HOST = 2;
        static final int IN_WHOLE = 3;
        private static final long NOWHERE = -MOST_LENGTH;
        private final Texts texts;
        private Runs out;
        private Text first;
        private Text second;
        private long i;
        private long j;
        // by bits
        private byte[] firstRow = new byte[USUAL];
        private byte[] secondRow = new byte[USUAL];
        private long[] masks = new long[LINES];
        private long[] now = new long[1];
        private long[] sides = new long[1];
        private long[] saved = new long[USUAL];
        // words by turns: which lines of the first text are matched, and which of the second one
        private long[] met = new long[2];
        private int width;
        private int down;
        private int across;
        // by steps: for each number of lines passed over, from which places on there is which distance
        private long[] places = new long[USUAL];
        private long[] distances = new long[USUAL];
        private int[] ends = new int[USUAL];
        private int steps;

        Matcher(Texts texts) {
            this.texts = texts;
        }

        void begin(Runs runs, Text one, Text other, long upTo) {
            out = runs;
            out.begin(one, other, upTo);
            first = one;
            second = other;
            i = 0L;
            j = 0L;
        }

        boolean isDone() {
            return i >= first.length || j >= second.length;
        }

        boolean isWithin(long cells, long rows) {
            long height = first.length - i;
            long broad = second.length - j;
            return height <= rows && broad <= rows && height * broad <= cells;
        }

        /** Matches what is equal from where it stands. */
        void goAlong() {
            long same = texts.common(first, i, second, j, false);
            if (same > 0) {
                out.add(i, j, same);
                i += same;
                j += same;
            }
        }

        // ---- by bits

        /**
         * Matches what is left of both texts, of very long ones a first part, and tells it as rows; or if no place is
         * asked for, only the length of the greatest common row. Of many lines, which ones are matched is yet to be
         * drafted, and it returns false.
         */
        boolean goByBits(boolean few, long most) {
            if (!few && out.wanted <= 0) {
                countByBits(most);
                return true;
            }
            goThrough(beginBits(most), 0, 0, 0);
            if (few) {
                int row = nextMet(0, 0);
                int column = nextMet(0, 1);
                while (row < down && column < across) {
                    out.add(i + row, j + column, 1L);
                    row = nextMet(row + 1, 0);
                    column = nextMet(column + 1, 1);
                }
                i += down;
                j += across;
            }
            return few;
        }

        /**
         * It is the same for both texts the other way round, and takes less room if the first one is the brief one. The
         * second one is gone through in pieces, from its end.
         */
        private void countByBits(long most) {
            if (first.length - i > second.length - j) {
                Text text = first;
                long place = i;
                first = second;
                i = j;
                second = text;
                j = place;
            }
            long from = j;
            int height = beginBits(most);
            for (long end = from + Math.min(most, second.length - from); end > from; end -= PIECE) {
                j = Math.max(from, end - PIECE);
                width = (int) (end - j);
                int words = Math.min(wordsOf(width), now.length);
                Arrays.fill(now, 0, words, MOST_LENGTH);
                sweep(0, height, 0, words);
                for (int w = 0; w < words; w++) {
                    out.common += BITS - Long.bitCount(now[w]);
                }
            }
            out.upTo = out.wanted;
        }

        private static int wordsOf(int columns) {
            return (columns + BITS - 1) / BITS;
        }

        /** At the ends of both texts, nothing grows any more. Returns the number of lines of the first text. */
        private int beginBits(long most) {
            int height = (int) Math.min(Math.min(most, MOST_LINES), first.length - i);
            width = (int) Math.min(Math.min(most, MOST_LINES), second.length - j);
            down = 0;
            across = 0;
            int words = wordsOf(width);
            int rows = height / WORD + 1;
            now = withRoom(now, words);
            Arrays.fill(now, 0, words, MOST_LENGTH);
            sides = withRoom(sides, rows);
            Arrays.fill(sides, 0, rows, 0L);
            int metWords = 2 * Math.max(rows, width / WORD + 1);
            met = withRoom(met, metWords);
            Arrays.fill(met, 0, metWords, 0L);
            masks = withRoom(masks, LINES * Math.min(words, TILE));
            firstRow = withRoom(firstRow, Math.min(height, ROWS_READ));
            secondRow = withRoom(secondRow, Math.min(width, BITS * TILE));
            return height;
        }

        /**
         * Goes on to the last one of some rows, or of the columns of the words from one on. What is behind is worked out
         * first, part by part, and what comes in at the bottom and the right edge of each part is kept meanwhile, in saved
         * from a place on; then the way goes through some parts. So the room is that of some rows and columns only.
         */
        private void goThrough(int to, int low, int base, int depth) {
            int from = down;
            int rows = to - from;
            int words = wordsOf(width - across) - low;
            if (rows <= 0 || words <= 0 || depth > MOST_DEPTH) {
                return;
            }
            if ((long) rows * words <= GROUP && words <= TILE) {
                goThroughGroup(to, low, base);
                return;
            }
            int lines = words > 1 && BITS * words / GRID >= rows ? 1 : Math.min(GRID, rows);
            int columns = rows > 1 && rows / GRID >= BITS * words ? 1 : Math.min(GRID, words);
            int side = from / WORD;
            int sideCount = (to - 1) / WORD - side + 1;
            int sideBase = base + lines * words;
            int next = sideBase + columns * sideCount;
            if (next > saved.length) {
                saved = Arrays.copyOf(saved, 2 * next);
            }
            if (low + words > now.length || side + sideCount > sides.length) {
                return;
            }
            for (int c = 0; c < columns; c++) {
                int word = partStart(low, words, c, columns);
                int end = partStart(low, words, c + 1, columns);
                System.arraycopy(sides, side, saved, sideBase + c * sideCount, sideCount);
                for (int r = lines - 1; r >= 0; r--) {
                    System.arraycopy(now, word, saved, base + r * words + word - low, end - word);
                    if (r > 0 || c < columns - 1) {
                        sweep(partStart(from, rows, r, lines), partStart(from, rows, r + 1, lines), word, end);
                    }
                }
            }
            int r = 0;
            int c = columns - 1;
            for (int turn = 0; turn < lines + columns && r < lines && c >= 0; turn++) {
                int word = partStart(low, words, c, columns);
                int count = wordsOf(width - across) - word;
                if (count <= 0 || word + count > now.length) {
                    return;
                }
                System.arraycopy(saved, base + r * words + word - low, now, word, count);
                System.arraycopy(saved, sideBase + c * sideCount, sides, side, sideCount);
                goThrough(partStart(from, rows, r + 1, lines), word, next, depth + 1);
                r += down >= partStart(from, rows, r + 1, lines) ? 1 : 0;
                c -= wordsOf(width - across) <= word ? 1 : 0;
            }
        }

        private static int partStart(int from, int size, int part, int parts) {
            return from + (int) ((long) size * part / parts);
        }

        /** Notes for some words which columns have which line, or forgets it; secondRow has the lines of the columns. */
        private void mark(int word, int words, int columns, boolean on) {
            int last = Math.min(width, BITS * (word + words)) - 1 - BITS * word;
            for (int k = 0; k < columns && k < secondRow.length; k++) {
                int mask = secondRow[k] * words + (last - k) / BITS;
                if (mask >= 0 && mask < masks.length) {
                    masks[mask] = on ? masks[mask] | 1L << (last - k) % BITS : 0L;
                }
            }
        }

        /**
         * Works out what goes out at the top and the left edge of some rows and words, where now and sides have what
         * comes in at the bottom and the right edge. A bit of now is 0 where the greatest common row grows by a line of
         * the second text, the last line having the lowest bit; a bit of sides is 1 where it grows by a line of the
         * first text. The top bit of a word takes the carry.
         */
        private void sweep(int from, int to, int low, int high) {
            for (int word = low; word < high; word += TILE) {
                int words = Math.min(TILE, high - word);
                int left = width - Math.min(width, BITS * (word + words));
                int columns = texts.read(second, j + left, secondRow, width - BITS * word - left);
                mark(word, words, columns, true);
                for (int end = to; end > from; end -= ROWS_READ) {
                    int begin = Math.max(from, end - ROWS_READ);
                    int row = texts.read(first, i + begin, firstRow, end - begin);
                    while (row > 0) {
                        int few = row >= FEW_ROWS ? FEW_ROWS : 1;
                        row -= few;
                        int side = begin + row;
                        long in = bitsAt(side, few);
                        long out = few == 1 ? riseOne(word, words, row, in) : riseFour(word, words, row, in);
                        flip(side, few, in ^ out);
                    }
                }
                mark(word, words, columns, false);
            }
        }

        private long bitsAt(int side, int few) {
            long bits = 0L;
            for (int k = 0; k < few && (side + k) / WORD < sides.length; k++) {
                bits |= (sides[(side + k) / WORD] >> (side + k) % WORD & 1L) << k;
            }
            return bits;
        }

        private void flip(int side, int few, long bits) {
            for (int k = 0; k < few && (side + k) / WORD < sides.length; k++) {
                sides[(side + k) / WORD] ^= (bits >> k & 1L) << (side + k) % WORD;
            }
        }

        private long riseOne(int word, int words, int row, long in) {
            int mask = row < 0 || row >= firstRow.length ? NONE : firstRow[row] * words;
            if (mask < 0 || mask + words > masks.length || word < 0 || word + words > now.length) {
                return in;
            }
            long carry = in;
            for (int w = 0; w < words; w++) {
                long old = now[word + w];
                long both = old & masks[mask + w];
                long added = old + both + carry;
                carry = added >>> BITS;
                now[word + w] = (added | old ^ both) & MOST_LENGTH;
            }
            return carry;
        }

        /** Four rows at once, as this is faster. */
        private long riseFour(int word, int words, int row, long in) {
            boolean known = row >= 0 && row + FEW_ROWS <= firstRow.length;
            int a = known ? firstRow[row + 3] * words : NONE;
            int b = known ? firstRow[row + 2] * words : NONE;
            int c = known ? firstRow[row + 1] * words : NONE;
            int d = known ? firstRow[row] * words : NONE;
            if (Math.min(Math.min(a, b), Math.min(c, d)) < 0 || word < 0 || word + words > now.length
                    || Math.max(Math.max(a, b), Math.max(c, d)) + words > masks.length) {
                return in;
            }
            long carryA = in >> 3 & 1L;
            long carryB = in >> 2 & 1L;
            long carryC = in >> 1 & 1L;
            long carryD = in & 1L;
            for (int w = 0; w < words; w++) {
                long old = now[word + w];
                long both = old & masks[a + w];
                long added = old + both + carryA;
                carryA = added >>> BITS;
                old = (added | old ^ both) & MOST_LENGTH;
                both = old & masks[b + w];
                added = old + both + carryB;
                carryB = added >>> BITS;
                old = (added | old ^ both) & MOST_LENGTH;
                both = old & masks[c + w];
                added = old + both + carryC;
                carryC = added >>> BITS;
                old = (added | old ^ both) & MOST_LENGTH;
                both = old & masks[d + w];
                added = old + both + carryD;
                carryD = added >>> BITS;
                now[word + w] = (added | old ^ both) & MOST_LENGTH;
            }
            return carryA << 3 | carryB << 2 | carryC << 1 | carryD;
        }

        /** A bit that goes into saved is 1 where the greatest common row grows by the line of the first text. */
        private void goThroughGroup(int to, int low, int base) {
            int from = down;
            int left = across;
            int words = wordsOf(width - across) - low;
            int rows = to - from;
            int end = base + rows * words;
            if (end > saved.length) {
                saved = Arrays.copyOf(saved, 2 * end);
            }
            firstRow = withRoom(firstRow, rows);
            int start = width - Math.min(width, BITS * (low + words));
            int columns = texts.read(second, j + start, secondRow, width - BITS * low - start);
            int known = texts.read(first, i + from, firstRow, rows);
            if (left < start || known < rows || start + columns < width - BITS * low || low + words > now.length
                    || LINES * words > masks.length) {
                return;
            }
            mark(low, words, columns, true);
            for (int row = rows - 1; row >= 0; row--) {
                int mask = firstRow[row] * words;
                long carry = bitsAt(from + row, 1);
                for (int w = 0; w < words; w++) {
                    long old = now[low + w];
                    long both = old & masks[mask + w];
                    long added = old + both + carry;
                    carry = added >>> BITS;
                    now[low + w] = (added | old ^ both) & MOST_LENGTH;
                    saved[base + row * words + w] = both | old & ~added;
                }
            }
            mark(low, words, columns, false);
            while (down < to && across < width - BITS * low) {
                int bit = width - 1 - across - BITS * low;
                boolean equal = firstRow[down - from] == secondRow[across - start];
                boolean grows = (saved[base + (down - from) * words + bit / BITS] >> bit % BITS & 1L) != 0;
                if (equal && 2 * (down / WORD) < met.length && 2 * (across / WORD) + 1 < met.length) {
                    met[2 * (down / WORD)] |= 1L << down % WORD;
                    met[2 * (across / WORD) + 1] |= 1L << across % WORD;
                }
                down += equal || !grows ? 1 : 0;
                across += equal || grows ? 1 : 0;
            }
        }

        /** The next matched row, or column if which is 1. */
        private int nextMet(int from, int which) {
            int next = from;
            int end = which == 0 ? down : across;
            while (next < end && 2 * (next / WORD) + which < met.length
                    && (met[2 * (next / WORD) + which] >> next % WORD & 1L) == 0) {
                next++;
            }
            return next;
        }

        /** Drafts the bits that are known, and some more, if there are more; ahead of where it stands, all is matched. */
        boolean draftsMet(boolean inSecond, Text known) {
            long all = inSecond ? second.length : first.length;
            long ahead = inSecond ? j : i;
            int count = inSecond ? across : down;
            int which = inSecond ? 1 : 0;
            if (known.length >= all) {
                return false;
            }
            texts.begin();
            texts.addPart(known, 0L, known.length);
            texts.addTimes(1, known.length == 0 ? ahead : 0L);
            int from = (int) Math.max(0L, known.length - ahead);
            int to = Math.min(count, from + GREEDY_LINES);
            for (int k = from; k < to && 2 * (k / WORD) + which < met.length; k++) {
                texts.addTimes((int) (met[2 * (k / WORD) + which] >> k % WORD & 1L), 1L);
            }
            texts.addTimes(0, to < count ? 0L : all - ahead - count);
            return true;
        }

        // ---- line by line

        /**
         * If one text, but for lines that the other one (its host) doesn't have, stands in the host as a whole, each of
         * its lines is matched where it is met first; yet if it is the second text, the line behind some that the host
         * doesn't have is matched as late as the rest of them lets it, as lines of the first text are passed over until
         * then. Goes on in this way for some turns, and for some lines one by one if these turns have not come far.
         * Returns false if it can't go on.
         */
        boolean goGreedily(int pass, boolean crossed, Text[] made) {
            Text whole = crossed ? second : first;
            Text host = crossed ? first : second;
            boolean back = pass == FROM_END;
            if (pass < 0 || pass >= made.length || FROM_END >= made.length
                    || back && (!crossed || host.hasAllOf(whole))) {
                return false;
            }
            Text known = made[pass];
            Text late = back ? texts.none : made[FROM_END];
            long place = crossed ? j : i;
            long other = crossed ? i : j;
            long far = other + GREEDY_LINES;
            long before = place + other;
            long met = known.ones;
            steps = 0;
            while (steps < GREEDY_TURNS && steps < places.length && place < whole.length) {
                long from = back ? whole.length - place : place;
                long hostFrom = back ? host.length - other : other;
                int line = whole.at(back ? from - 1 : from);
                boolean foreign = !host.has(line);
                long same = 0L;
                long over = 0L;
                if (foreign) {
                    over = distance(whole, place, texts.findOneOf(whole, host, from, back), back);
                    place += over;
                } else if (other >= host.length) {
                    break;
                } else if (late.placeOfOne(met) > other && place > 0 && !host.has(whole.at(place - 1))) {
                    over = late.placeOfOne(met) - other;
                    other += over;
                } else {
                    same = texts.common(whole, from, host, hostFrom, back);
                    long next = same > 0 ? NONE : texts.findOneOf(host, texts.oneLine(line), hostFrom, back);
                    over = same > 0 ? 0L : distance(host, other, next, back);
                    place += same;
                    other += same + over;
                    met += same;
                }
                places[steps] = same > 0 ? same : foreign == (pass == IN_WHOLE) ? -over : 0L;
                steps++;
            }
            down = 0;
            across = 0;
            width = 0;
            if (other < far) {
                goLineByLine(back, crossed, place, other, late, met);
            }
            i = crossed ? other + across : place + down;
            j = crossed ? place + down : other + across;
            return place + down + other + across > before;
        }

        private static long distance(Text text, long done, long next, boolean back) {
            return next == NONE ? text.length - done : back ? text.length - 1 - next - done : next - done;
        }

        /**
         * Goes on for some lines; then down and across tell how many, and the rows have the bits for them in place of
         * the lines. The top bit of a line in the second row is that of the place where a line is matched at the latest.
         */
        private void goLineByLine(boolean back, boolean crossed, long place, long other, Text late, long met) {
            Text whole = crossed ? second : first;
            Text host = crossed ? first : second;
            int height = (int) Math.min(GREEDY_LINES, whole.length - place);
            width = (int) Math.min(GREEDY_LINES, host.length - other);
            firstRow = withRoom(firstRow, GREEDY_LINES);
            secondRow = withRoom(secondRow, GREEDY_LINES);
            texts.read(host, back ? host.length - other - width : other, secondRow, width);
            int latest = texts.read(late, other, firstRow, width);
            for (int k = 0; k < latest && k < firstRow.length && k < secondRow.length; k++) {
                secondRow[k] |= firstRow[k] == 1 ? TOP_BIT : 0;
            }
            texts.read(whole, back ? whole.length - place - height : place, firstRow, height);
            long ahead = late.onesAhead(other);
            boolean waits = latest > 0 && place > 0 && !host.has(whole.at(place - 1));
            long found = met;
            while (down < height && height <= firstRow.length && width <= secondRow.length) {
                int row = back ? height - 1 - down : down;
                int column = back ? width - 1 - across : across;
                int line = firstRow[row];
                if (!host.has(line)) {
                    firstRow[row] = 0;
                    waits = latest > 0;
                    down++;
                    continue;
                }
                if (across >= width) {
                    return;
                }
                boolean last = secondRow[column] < 0;
                waits = waits && !(last && ahead == found);
                boolean equal = !waits && (secondRow[column] & TOP_BIT - 1) == line;
                ahead += last ? 1 : 0;
                secondRow[column] = (byte) (equal ? 1 : 0);
                firstRow[row] = equal ? 1 : firstRow[row];
                found += equal ? 1 : 0;
                down += equal ? 1 : 0;
                across++;
            }
        }

        /** Drafts the bits that are known, and those of the lines that it has gone on for. */
        void draftGreedily(int pass, boolean crossed, Text known) {
            texts.begin();
            if (pass == TRYING) {
                return;
            }
            boolean back = pass == FROM_END;
            boolean inWhole = pass == IN_WHOLE;
            byte[] row = inWhole ? firstRow : secondRow;
            int count = inWhole ? down : across;
            long rest = inWhole || !isThrough(crossed) ? 0L : crossed ? first.length - i : second.length - j;
            texts.addTimes(0, back ? rest : 0L);
            texts.addPart(known, 0L, back ? 0L : known.length);
            for (int k = 0; !back && k < steps && k < places.length; k++) {
                texts.addTimes(places[k] > 0 ? 1 : 0, places[k] > 0 ? places[k] : -places[k]);
            }
            int from = back ? width - count : 0;
            for (int k = from; k < from + count && k < row.length; k++) {
                texts.addTimes(row[k], 1L);
            }
            for (int k = steps - 1; back && k >= 0 && k < places.length; k--) {
                texts.addTimes(places[k] > 0 ? 1 : 0, places[k] > 0 ? places[k] : -places[k]);
            }
            texts.addPart(known, 0L, back ? known.length : 0L);
            texts.addTimes(0, back ? 0L : rest);
        }

        /** Whether the text that is to stand in the other one as a whole has been gone through. */
        boolean isThrough(boolean crossed) {
            return crossed ? j >= second.length : i >= first.length;
        }

        // ---- by steps

        /**
         * Goes on to an end of a text if few lines need to be passed over, and that in not too many turns; otherwise it
         * returns false.
         */
        boolean goBySteps(int mostPassed, int mostSteps, int mostTurns) {
            boolean crossed = first.length - i > second.length - j;
            steps = 0;
            for (int passed = 0; passed <= mostPassed && passed < MOST_PASSED && steps < mostSteps; passed++) {
                if (passed >= ends.length) {
                    ends = Arrays.copyOf(ends, 2 * ends.length);
                }
                int left = mostPassed - passed;
                boolean found = crossed ? climb(passed, left, second, j, first, i, mostSteps)
                        : climb(passed, left, first, i, second, j, mostSteps);
                ends[passed] = steps;
                if (found) {
                    long all = out.common + (crossed ? second.length - j : first.length - i) - passed;
                    boolean whole = walk(passed, crossed, mostTurns);
                    out.common = all;
                    i = first.length;
                    return whole;
                }
            }
            return false;
        }

        /**
         * Works out from which place of the long text on, at the latest, what is behind a place of the brief one has
         * its lines in this order, if some are passed over; and whether this is so from the beginnings on. With one
         * line more to pass over, this is at least a line later, so where it is just that, it stays so as long as it
         * does with one line less. It ends where more lines are ahead than could still be passed over.
         */
        private boolean climb(int passed, int left, Text brief, long briefFrom, Text lengthy, long lengthyFrom,
                int most) {
            long place = Math.max(brief.length - passed, briefFrom);
            long other = lengthy.length;
            note(place, other);
            for (int turn = 0; turn < MOST_TURNS && place > briefFrom && steps < most; turn++) {
                int step = stepAt(passed - 1, place);
                long before = step == NONE ? NOWHERE : distances[step];
                if (place - briefFrom > other - lengthyFrom + left) {
                    note(place - 1, NOWHERE);
                    return false;
                }
                long same = 0L;
                if (step != NONE && before == other - place - 1) {
                    same = step + 1 < ends[passed - 1] ? place - places[step + 1] : place - briefFrom;
                } else {
                    same = Math.min(texts.common(brief, place, lengthy, other, true),
                            Math.min(place - briefFrom, other - lengthyFrom));
                }
                if (same > 0) {
                    place -= same;
                    other -= same;
                    continue;
                }
                long own = texts.findOneOf(lengthy, texts.oneLine(brief.at(place - 1)), other, true);
                other = Math.max(own, place + before);
                place--;
                note(place, other < lengthyFrom ? NOWHERE : other);
                if (other < lengthyFrom) {
                    return false;
                }
            }
            return place <= briefFrom;
        }

        private void note(long place, long other) {
            if (steps >= places.length) {
                places = Arrays.copyOf(places, 2 * steps);
                distances = Arrays.copyOf(distances, 2 * steps);
            }
            if (steps < places.length && steps < distances.length) {
                places[steps] = place;
                distances[steps] = other < 0 ? NOWHERE : other - place;
                steps++;
            }
        }

        /** The step that tells of a place: the last one that is not ahead of it. */
        private int stepAt(int passed, long place) {
            if (passed < 0 || passed >= ends.length) {
                return NONE;
            }
            int low = passed > 0 ? ends[passed - 1] : 0;
            int high = ends[passed] - 1;
            while (low < high) {
                int middle = (low + high + 1) >>> 1;
                if (places[middle] >= place) {
                    low = middle;
                } else {
                    high = middle - 1;
                }
            }
            return low;
        }

        private long latest(int passed, long place) {
            int step = stepAt(passed, place);
            return step == NONE ? NONE : place + distances[step];
        }

        /**
         * Goes through the texts, as far as it is asked for; what was worked out tells what may be passed over. Returns
         * whether the turns were enough.
         */
        private boolean walk(int passed, boolean crossed, int mostTurns) {
            int most = passed;
            for (int turn = 0; turn < mostTurns && !isDone() && j < out.wanted; turn++) {
                long same = texts.common(first, i, second, j, false);
                if (same > 0) {
                    out.add(i, j, same);
                    i += same;
                    j += same;
                } else if (!crossed && latest(most - 1, i + 1) >= j) {
                    i++;
                    most--;
                } else if (!crossed) {
                    long next = texts.findOneOf(second, texts.oneLine(first.at(i)), j, false);
                    j = next == NONE ? second.length : next;
                } else {
                    long next = texts.findOneOf(first, texts.oneLine(second.at(j)), i, false);
                    long last = Math.min(latest(most, j), first.length);
                    if (next != NONE && next <= last) {
                        i = next;
                    } else {
                        i = Math.max(i, last);
                        j++;
                        most--;
                    }
                }
            }
            if (!isDone() && j >= out.wanted) {
                out.upTo = out.wanted;
            }
            return isDone() || j >= out.wanted;
        }
    }

    /**
     * Matches texts of any length block by block. A block stands for some lines of the first text, its height, and some
     * of the second one, its breadth. What goes out at its top and its left edge, and where the way goes through it,
     * depends on these lines and on what comes in at its bottom and its right edge alone; so a block that is met again,
     * as blocks are in texts that say the same again and again, is not worked out again. Along an edge stands a bit for
     * each line, which tells whether the greatest common row grows by it. Edges that are no longer needed are swept away
     * when they fill their table, so that the room bounds no texts.
     */
    private static final class Lattice {
        private static final int LEAF = 62;
        private static final int HALF = 32;
        private static final long LOWER_HALF = 0xFFFFFFFFL;
        private static final long FEW = 1L << 63;
        private static final long BITS = 1L << 62;
        private static final int SIDES = 0;
        private static final int EDGES = 1;
        private static final int ROPES = 2;
        private static final int TABLES = 3;
        private static final int USUAL = 1 << 10;
        private static final int USUAL_NUMBERS = 1 << 13;
        private static final int LEVEL_SHIFT = 3;
        private static final int OLD_SHARE = 8;
        private static final int OLD_NUMBERS = 1 << 16;
        private static final int SIDE_BITS = 18;
        private static final int EDGE_BITS = 21;
        private static final int MOST_NUMBER = (1 << EDGE_BITS) - 1;
        private static final int MOST_SIDES = 1 << SIDE_BITS;
        private static final int MOST_EDGES = 1 << 20;
        private static final int MOST_ROPES = 1 << 20;
        private static final int PARTS = 4;
        private static final int SIZE = 0;
        private static final int LOW = 1;
        private static final int HIGH = 2;
        private static final int START = 3;
        private static final int BLOCK = 2;
        private static final int WORK_OF_BLOCK = 32;
        private static final int MOST_BLOCKS = 1 << 20;
        private static final int WAY = 5;
        private static final int MOST_WAYS = 1 << 18;
        private static final int WORK_OF_WAY = 16;
        private static final long FAILED = 1L << 62;
        private static final int MOST_TURNS_OF_ROPE = 1 << 28;
        private static final int MOST_DEPTH = 240;
        private static final long MIXER = 0x9E3779B97F4A7C15L;
        private final Texts texts;
        // Numbers for sides, for edges and for ropes of bits: each is made of two others, one behind the other, or of a
        // few lines or bits; 0 stands for an edge without a bit that is 1, and for a rope without bits.
        private final long[][] contents = new long[TABLES][1];
        // how many numbers there are in each table, and how many lines
        private final int[] counts = new int[TABLES + 1];
        private long[] parts = new long[0];
        private byte[] lines = new byte[USUAL];
        private int age;
        // for two sides and what comes in, put together in two longs, what goes out
        private long[] blocks = new long[0];
        private long[] ways = new long[0];
        private long work;
        private long mostWork;
        // how many pairs of lines are still to be covered by blocks before much of the work is done
        private long uncovered;
        // the edges that are still needed while a block is worked out, in pairs
        private final long[] held = new long[2 * MOST_DEPTH];
        private int heldCount;
        private final long[] masks = new long[LINES];
        private final long[] rises = new long[LEAF + 1];
        // where the way leaves a block, and the bits of the lines that it has passed on both sides
        private long leaves;
        private long passed;
        // the texts of ropes, and the ropes that wait for theirs
        private Text[] ropeTexts = new Text[0];
        private final int[] waiting = new int[2 * MOST_DEPTH];
        private int waitingCount;

        Lattice(Texts texts) {
            this.texts = texts;
        }

        /**
         * Keeps what was worked out before, unless it takes too much of the room. With so much work, it fails; and with
         * a quarter of it, if so many pairs of lines are not covered by then, as there is no hope.
         */
        void begin(long most, long pairs) {
            boolean full = age == 0 || isTight();
            for (int t = 0; t < TABLES; t++) {
                int old = Math.max(contents[t].length / OLD_SHARE, Math.min(contents[t].length / 2, OLD_NUMBERS));
                full = full || counts[t] > old;
            }
            work = 0L;
            mostWork = most;
            uncovered = pairs;
            passed = 0L;
            heldCount = 0;
            if (full) {
                makeRoom();
            }
        }

        private void makeRoom() {
            for (int t = 0; t < TABLES; t++) {
                int size = sizeOf(t);
                if (contents[t].length != size) {
                    contents[t] = new long[size];
                }
                Arrays.fill(contents[t], 0L);
                counts[t] = 0;
            }
            if (parts.length != PARTS * contents[SIDES].length) {
                parts = new long[PARTS * contents[SIDES].length];
            }
            Arrays.fill(parts, 0L);
            if (ropeTexts.length != contents[ROPES].length) {
                ropeTexts = new Text[contents[ROPES].length];
            }
            for (int k = 0; k < ropeTexts.length; k++) {
                ropeTexts[k] = null;
            }
            blocks = blocks.length == 0 ? new long[BLOCK * USUAL] : blocks;
            ways = ways.length == 0 ? new long[WAY * USUAL] : ways;
            Arrays.fill(blocks, 0L);
            Arrays.fill(ways, 0L);
            counts[TABLES] = 0;
            age++;
        }

        /** The size that a table is to have: more than it has if it is full, as far as that goes. */
        private int sizeOf(int table) {
            int most = table == SIDES ? MOST_SIDES : table == EDGES ? MOST_EDGES : MOST_ROPES;
            int size = Math.max(contents[table].length, USUAL_NUMBERS);
            return Math.min(most, counts[table] >= mostIn(table) ? size << LEVEL_SHIFT : size);
        }

        private int mostIn(int table) {
            return contents[table].length - contents[table].length / OLD_SHARE;
        }

        /** Whether it has failed as a table was too small, and there is a larger one. */
        boolean isTight() {
            boolean tight = false;
            for (int t = 0; t < TABLES; t++) {
                tight = tight || contents[t].length != sizeOf(t);
            }
            return tight;
        }

        boolean hasFailed() {
            return work > mostWork;
        }

        private static long both(int one, int other) {
            return (long) one << HALF | other;
        }

        private static int one(long pair) {
            return (int) (pair >>> HALF);
        }

        private static int other(long pair) {
            return (int) pair;
        }

        private static int mixed(long number, int slots) {
            long mixed = number * MIXER;
            mixed ^= mixed >>> HALF;
            mixed *= MIXER;
            return (int) (mixed >>> HALF + 1) & (slots - 1);
        }

        private static long entry(long[] row, int place) {
            return place < 0 || place >= row.length ? 0L : row[place];
        }

        // ---- numbers

        /** A number of its own for each content: its place in the table, where equal contents are found again. */
        private int numberOf(int table, long content) {
            long[] row = contents[table];
            int place = mixed(content, row.length);
            for (int turn = 0; turn < row.length && (place == 0 || row[place] != 0L && row[place] != content); turn++) {
                place = place + 1 & row.length - 1;
            }
            if (content == 0L || row[place] == content) {
                return content == 0L ? 0 : place;
            }
            if (counts[table] >= row.length - row.length / OLD_SHARE || place == 0) {
                work = FAILED;
                return 0;
            }
            row[place] = content;
            counts[table]++;
            return place;
        }

        private long pair(int table, int number) {
            long[] row = contents[table];
            return number < 0 || number >= row.length ? 0L : row[number];
        }

        private long part(int side, int which) {
            int place = PARTS * side + which;
            return side < 0 || place >= parts.length ? 0L : parts[place];
        }

        // ---- sides

        /** The side that a text makes, if no end is told; otherwise the side of some of its kids, several times. */
        int sideOf(Text text, int from, int to, long times, int depth) {
            if (depth > MOST_DEPTH || hasFailed() || from < 0 || to > text.kids.length) {
                work = FAILED;
                return 0;
            }
            if (times > 1) {
                long half = Long.highestOneBit(times - 1);
                int front = sideOf(text, from, to, half, depth + 1);
                return sideOfBoth(front, times == 2 * half ? front : sideOf(text, from, to, times - half, depth + 1));
            }
            if (to > from + 1) {
                int middle = (from + to) >>> 1;
                return sideOfBoth(sideOf(text, from, middle, 1L, depth + 1), sideOf(text, middle, to, 1L, depth + 1));
            }
            Text node = to == NONE ? text : text.kids[from];
            if (node.spot >>> HALF == age) {
                return other(node.spot);
            }
            int side = 0;
            if (node.length > LEAF) {
                side = sideOf(node, 0, node.kids.length, node.count, depth + 1);
            } else {
                side = numberOf(SIDES, FEW | node.rank & LOWER_HALF);
                for (int k = 0; k < LEAF && part(side, SIZE) < node.length; k++) {
                    addLine(side, node.at(k));
                }
            }
            node.spot = hasFailed() ? 0L : both(age, side);
            return side;
        }

        private int sideOfBoth(int front, int behind) {
            int side = numberOf(SIDES, both(front, behind));
            int place = PARTS * side;
            long size = part(front, SIZE) + part(behind, SIZE);
            if (part(side, SIZE) > 0 || place + HIGH >= parts.length) {
                return side;
            }
            if (size > LEAF) {
                parts[place + SIZE] = size;
                parts[place + LOW] = part(front, LOW) | part(behind, LOW);
                parts[place + HIGH] = part(front, HIGH) | part(behind, HIGH);
                return side;
            }
            for (int k = 0; k < size; k++) {
                long from = part(front, START) + k;
                from = k < part(front, SIZE) ? from : part(behind, START) + k - part(front, SIZE);
                addLine(side, from < lines.length ? lines[(int) from] : 0);
            }
            return side;
        }

        private void addLine(int side, int line) {
            int lineCount = counts[TABLES];
            if (lineCount >= lines.length) {
                lines = Arrays.copyOf(lines, 2 * lineCount);
            }
            int place = PARTS * side;
            if (side <= 0 || place + START >= parts.length || lineCount >= lines.length) {
                return;
            }
            parts[place + START] = parts[place + SIZE] == 0 ? lineCount : parts[place + START];
            parts[place + SIZE]++;
            parts[place + LOW] |= line < WORD ? 1L << line : 0L;
            parts[place + HIGH] |= line < WORD ? 0L : 1L << line - WORD;
            lines[lineCount] = (byte) line;
            counts[TABLES]++;
        }

        // ---- blocks

        /** What goes out at the top and the left edge of a block, by what comes in at its bottom and its right edge. */
        private long out(int first, int second, long in, int depth) {
            boolean apart = (part(first, LOW) & part(second, LOW) | part(first, HIGH) & part(second, HIGH)) == 0;
            if (apart && (one(in) == 0 || other(in) == 0) || hasFailed()) {
                cover(first, second);
                return in;
            }
            work = depth > MOST_DEPTH || uncovered > 0 && work > mostWork / 4 ? FAILED : work + 1;
            if (work > (long) WORK_OF_BLOCK * blocks.length && blocks.length < BLOCK * MOST_BLOCKS) {
                blocks = new long[4 * blocks.length];
            }
            long key = ((long) first << SIDE_BITS | second) << EDGE_BITS | one(in);
            int slot = BLOCK * mixed(key * MIXER + other(in), blocks.length / BLOCK);
            long known = entry(blocks, slot + 1);
            if (entry(blocks, slot) == key && known >>> 2 * EDGE_BITS == other(in)) {
                cover(first, second);
                return both((int) (known >>> EDGE_BITS) & MOST_NUMBER, (int) known & MOST_NUMBER);
            }
            if (counts[EDGES] > contents[EDGES].length / 4 * 3 && contents[EDGES].length == MOST_EDGES) {
                sweep();
            }
            long result;
            if (part(first, SIZE) <= LEAF && part(second, SIZE) <= LEAF) {
                cover(first, second);
                long topBits = rise(first, second, in);
                int top = numberOf(EDGES, topBits == 0L ? 0L : BITS | topBits);
                result = both(top, numberOf(EDGES, rises[LEAF] == 0L ? 0L : BITS | rises[LEAF]));
            } else if (part(first, SIZE) >= part(second, SIZE)) {
                long kids = pair(SIDES, first);
                long side = pair(EDGES, other(in));
                long low = out(other(kids), second, both(one(in), other(side)), depth + 1);
                hold(low);
                long high = out(one(kids), second, both(one(low), one(side)), depth + 1);
                heldCount--;
                result = both(one(high), numberOf(EDGES, both(other(high), other(low))));
            } else {
                long kids = pair(SIDES, second);
                long bottom = pair(EDGES, one(in));
                long behind = out(first, other(kids), both(other(bottom), other(in)), depth + 1);
                hold(behind);
                long front = out(first, one(kids), both(one(bottom), other(behind)), depth + 1);
                heldCount--;
                result = both(numberOf(EDGES, both(one(front), one(behind))), other(front));
            }
            // the row may have been made larger
            slot = BLOCK * mixed(key * MIXER + other(in), blocks.length / BLOCK);
            if (!hasFailed() && slot + 1 < blocks.length) {
                blocks[slot] = key;
                blocks[slot + 1] = ((long) other(in) << EDGE_BITS | one(result)) << EDGE_BITS | other(result);
            }
            return result;
        }

        /** How many lines are matched; it grows so often along the top edge. */
        long count(int first, int second) {
            long ones = 0L;
            waiting[0] = one(out(first, second, 0L, 0));
            waitingCount = 1;
            for (int turn = 0; turn < MOST_TURNS_OF_ROPE && !hasFailed() && waitingCount > 0; turn++) {
                waitingCount--;
                long content = pair(EDGES, waiting[waitingCount]);
                if (content >= BITS) {
                    ones += Long.bitCount(content & ~BITS);
                } else if (content != 0L && waitingCount + 1 < waiting.length) {
                    waiting[waitingCount] = one(content);
                    waiting[waitingCount + 1] = other(content);
                    waitingCount += 2;
                }
            }
            return ones;
        }

        private void cover(int first, int second) {
            uncovered -= uncovered > 0 ? part(first, SIZE) * part(second, SIZE) : 0L;
        }

        private void hold(long edges) {
            if (heldCount >= 0 && heldCount < held.length) {
                held[heldCount] = edges;
            }
            heldCount++;
        }

        /**
         * Takes all edges away but those that are held and what they are made of; what comes into a block is among
         * these. An edge that stays may not be found again, behind a gap, and gets another number then, too: what is
         * known of the one is not known of the other, but it is the same.
         */
        private void sweep() {
            long[] row = contents[EDGES];
            for (int k = 0; k < heldCount && k < held.length; k++) {
                mark(row, one(held[k]));
                mark(row, other(held[k]));
            }
            counts[EDGES] = 0;
            for (int place = 0; place < row.length; place++) {
                counts[EDGES] += row[place] < 0 ? 1 : 0;
                row[place] = row[place] < 0 ? row[place] & ~FEW : 0L;
            }
            Arrays.fill(blocks, 0L);
            Arrays.fill(ways, 0L);
            work = counts[EDGES] > row.length / 2 ? FAILED : work;
        }

        /** Marks an edge and what it is made of. */
        private void mark(long[] row, int edge) {
            waiting[0] = edge;
            waitingCount = 1;
            for (int turn = 0; turn <= 2 * row.length && waitingCount > 0; turn++) {
                waitingCount--;
                int place = waiting[waitingCount];
                if (place <= 0 || place >= row.length || row[place] <= 0) {
                    continue;
                }
                if (row[place] >= BITS) {
                    row[place] |= FEW;
                    continue;
                }
                if (waitingCount + 1 >= waiting.length) {
                    work = FAILED;
                    return;
                }
                waiting[waitingCount] = (int) (row[place] >>> HALF);
                waiting[waitingCount + 1] = (int) row[place];
                waitingCount += 2;
                row[place] |= FEW;
            }
        }

        /**
         * The same for a block of a few lines, told as bits, the last line as the lowest one: those at the top are the
         * answer, those at the left edge the last ones of rises. A bit of rises tells whether the row grows by the line
         * of the first text, a row of them for each of its lines.
         */
        private long rise(int first, int second, long in) {
            long side = pair(EDGES, other(in));
            int height = (int) part(first, SIZE);
            int breadth = (int) part(second, SIZE);
            int from = (int) part(first, START);
            int secondFrom = (int) part(second, START);
            boolean few = height <= LEAF && breadth <= LEAF;
            if (!few || from + height > lines.length || secondFrom + breadth > lines.length) {
                return 0L;
            }
            for (int k = 0; k < breadth; k++) {
                masks[lines[secondFrom + k]] |= 1L << breadth - 1 - k;
            }
            long all = (1L << breadth) - 1;
            // a 0 where the row grows by the line of the second text
            long now = ~pair(EDGES, one(in)) & all;
            rises[LEAF] = 0L;
            for (int row = height - 1; row >= 0; row--) {
                long met = now & masks[lines[from + row]];
                long added = now + met + (side >> height - 1 - row & 1L);
                rises[row] = met | now & ~added;
                rises[LEAF] |= (added >> breadth & 1L) << height - 1 - row;
                now = (added | now & ~met) & all;
            }
            for (int k = 0; k < breadth; k++) {
                masks[lines[secondFrom + k]] = 0L;
            }
            return ~now & all;
        }

        // ---- the way

        /**
         * Follows the way through a block. A number tells where it comes in and leaves: a column at the top or the
         * bottom; or, less than 0, -1 for the first row at the left or the right, -2 for the second one. What it passes
         * goes into passed: a rope of bits for the lines of the first text, 1 for matched ones, and one for the second.
         */
        void goThrough(int first, int second, long in, long from, int depth) {
            work = depth > MOST_DEPTH ? FAILED : work + WORK_OF_WAY;
            if (hasFailed() || isKnown(first, second, in, from)) {
                return;
            }
            boolean down = part(first, SIZE) >= part(second, SIZE);
            if (part(down ? first : second, SIZE) <= LEAF) {
                goThroughLines(first, second, in, from);
                know(first, second, in, from);
                return;
            }
            hold(in);
            long kids = pair(SIDES, down ? first : second);
            int front = one(kids);
            int behind = other(kids);
            long edge = pair(EDGES, down ? other(in) : one(in));
            long behindIn = down ? both(one(in), other(edge)) : both(other(edge), other(in));
            long size = part(front, SIZE);
            long start = (down ? -1 - from : from) - size;
            long before = 0L;
            boolean ends = false;
            if (start < 0) {
                long met = out(down ? behind : first, down ? second : behind, behindIn, depth + 1);
                long frontIn = down ? both(one(met), one(edge)) : both(one(edge), other(met));
                goThrough(down ? front : first, down ? second : front, frontIn, from, depth + 1);
                before = passed;
                ends = down ? leaves < 0 || leaves >= part(second, SIZE) : leaves >= 0;
                leaves = down && leaves >= part(second, SIZE) ? -1 - size : leaves;
                start = leaves == -1 ? 0L : leaves;
            } else if (down && start > 0) {
                start = -1 - start;
            }
            if (!ends) {
                goThrough(down ? behind : first, down ? second : behind, behindIn, start, depth + 1);
                leaves += !down && leaves >= 0 ? size : 0L;
                leaves -= down && leaves < 0 ? size : 0L;
                passed = both(joined(one(before), one(passed)), joined(other(before), other(passed)));
            }
            heldCount--;
            know(first, second, in, from);
        }

        private void goThroughLines(int first, int second, long in, long from) {
            rise(first, second, in);
            int height = (int) part(first, SIZE);
            int breadth = (int) part(second, SIZE);
            int start = (int) part(first, START);
            int secondStart = (int) part(second, START);
            int row = from < 0 ? (int) (-1 - from) : 0;
            int column = from < 0 ? 0 : (int) from;
            long rows = 0L;
            long columns = 0L;
            int rowCount = 0;
            int columnCount = 0;
            while (row < height && column < breadth && row < rises.length && start + row < lines.length
                    && secondStart + column < lines.length) {
                boolean equal = lines[start + row] == lines[secondStart + column];
                boolean passes = (rises[row] >> breadth - 1 - column & 1L) == 0;
                if (equal || passes) {
                    rows |= equal ? 1L << rowCount : 0L;
                    rowCount++;
                    row++;
                }
                if (equal || !passes) {
                    columns |= equal ? 1L << columnCount : 0L;
                    columnCount++;
                    column++;
                }
            }
            leaves = row >= height ? column : -1 - row;
            int rope = rowCount == 0 ? 0 : numberOf(ROPES, FEW | 1L << rowCount | rows);
            passed = both(rope, columnCount == 0 ? 0 : numberOf(ROPES, FEW | 1L << columnCount | columns));
        }

        private int joined(int front, int behind) {
            return front == 0 ? behind : behind == 0 ? front : numberOf(ROPES, both(front, behind));
        }

        private int placeOf(int first, int second, long in, long from) {
            return WAY * mixed((both(first, second) * MIXER + in) * MIXER + from, ways.length / WAY);
        }

        private boolean isKnown(int first, int second, long in, long from) {
            int place = placeOf(first, second, in, from);
            if (entry(ways, place) != both(first, second) || entry(ways, place + 1) != in
                    || entry(ways, place + 2) != from) {
                return false;
            }
            leaves = entry(ways, place + 3);
            passed = entry(ways, place + 4);
            return true;
        }

        private void know(int first, int second, long in, long from) {
            if (counts[ROPES] > ways.length / WAY && ways.length < WAY * MOST_WAYS) {
                ways = new long[4 * ways.length];
            }
            int place = placeOf(first, second, in, from);
            if (!hasFailed() && place + 4 < ways.length) {
                ways[place] = both(first, second);
                ways[place + 1] = in;
                ways[place + 2] = from;
                ways[place + 3] = leaves;
                ways[place + 4] = passed;
            }
        }

        // ---- ropes become texts

        private Text ropeText(int rope) {
            return rope <= 0 || rope >= ropeTexts.length ? texts.none : ropeTexts[rope];
        }

        /** Drafts the bits of the one text or the other one; what is left behind the way is not matched. */
        void draftPassed(boolean second, long length) {
            Text text = ropeText(second ? other(passed) : one(passed));
            texts.begin();
            texts.addPart(text == null ? texts.none : text, 0L, text == null ? 0L : text.length);
            texts.addTimes(0, length - (text == null ? 0L : text.length));
        }

        /**
         * Takes the text that was drafted before, and drafts that of a rope of what has been gone through, if there is
         * one left that has none; its parts have theirs by then.
         */
        boolean draftsOne(Text drafted) {
            int last = drafted.length == 0 ? NONE : waitingCount - 1;
            if (last >= 0 && last < waiting.length && waiting[last] > 0 && waiting[last] < ropeTexts.length) {
                ropeTexts[waiting[last]] = drafted;
                waitingCount = last;
            }
            if (drafted.length == 0) {
                waiting[0] = one(passed);
                waiting[1] = other(passed);
                waitingCount = 2;
            }
            for (int turn = 0; turn < MOST_TURNS_OF_ROPE && waitingCount > 0 && waitingCount < waiting.length; turn++) {
                int rope = waiting[waitingCount - 1];
                if (ropeText(rope) != null) {
                    waitingCount--;
                    continue;
                }
                long content = pair(ROPES, rope);
                Text front = content < 0 ? texts.none : ropeText(one(content));
                Text behind = content < 0 ? texts.none : ropeText(other(content));
                if (front == null || behind == null) {
                    waiting[waitingCount] = front == null ? one(content) : other(content);
                    waitingCount++;
                    continue;
                }
                texts.begin();
                long left = content < 0 ? content & ~FEW : 1L;
                for (int k = 0; k < LEAF && left > 1; k++) {
                    texts.add((int) (left & 1L));
                    left >>= 1;
                }
                texts.addPart(front, 0L, front.length);
                texts.addPart(behind, 0L, behind.length);
                return true;
            }
            return false;
        }
    }

    /**
     * Matches texts and finds moves; the latest matchings are kept, as the same ones are asked for again and again. Of
     * a matching with too many rows of lines, bits tell which lines are matched: 1 for those that are, in both texts.
     */
    private static final class Compare {
        private static final int SLOTS = 256;
        private static final int FEW_SLOTS = 4;
        private static final int FACTOR = 31;
        private static final int FEW_RUNS = 1 << 10;
        private static final int SOME_RUNS = 1 << 10;
        private static final int MANY_RUNS = 1 << 12;
        private static final int ROUNDS = 8;
        private static final long FEW_CELLS = 1L << 12;
        private static final long SOME_CELLS = 1L << 24;
        private static final long SOME_ROWS = 1L << 13;
        private static final int FEW_PASSED = 64;
        private static final int FEW_STEPS = 1 << 14;
        private static final int MANY_PASSED = 512;
        private static final int MANY_STEPS = 1 << 18;
        // the ways to match long texts: by blocks with some work; greedily, if the first one stands in the second one or
        // the other way round; by many steps; by blocks with much work; by bits
        private static final int BLOCKS = 0;
        private static final int FIRST_IN_SECOND = 1;
        private static final int SECOND_IN_FIRST = 2;
        private static final int STEPS = 3;
        private static final int MORE_BLOCKS = 4;
        private static final int BITS = 5;
        private static final long FEW_WORK = 1L << 18;
        private static final long SOME_WORK = 1L << 24;
        private static final long MOST_WORK = 1L << 36;
        private static final long PAIRS_OF_WORK = 1L << 14;
        private static final long LEAST_COVERED = 8;
        private static final int MOST_LINES = 1 << 28;
        private static final long MOST_PAIRS = 1L << 53;
        private static final int WINDOW = 1 << 20;
        private static final int MOST_GREEDY = 1 << 16;
        private static final int MOST_DRAFTS = 1 << 22;
        private static final int LIKE_ENOUGH = 50;
        private static final int SAME = 100;
        private static final int LIKE_FACTOR = 200;
        private static final int HALF = 32;
        private static final long LOWER_HALF = 0xFFFFFFFFL;
        // what may be made of two rows of bits
        private static final int BOTH = 0;
        private static final int FIRST_ALONE = 1;
        private static final int TAKEN = 2;
        private static final int PUT = 3;
        private static final int UNLIKE = 4;
        private static final int WAYS = 8;
        private static final int FEW_BITS = 1024;
        private static final int USUAL_WOVEN = 1 << 8;
        private static final int MOST_WOVEN = 1 << 17;
        private static final int USUAL_DEPTH = 140;
        private static final int MOST_DEPTH = 240;
        private final Texts texts;
        private final Matcher matcher;
        private final Lattice lattice;
        private final Runs[] slots = new Runs[SLOTS];
        private final Runs latest = new Runs();
        // what was made of two rows of bits, of their ranks
        private Text[] woven = new Text[USUAL_WOVEN];
        private long[] wovenPairs = new long[USUAL_WOVEN];
        private long wovenCount;

        Compare(Texts storing) {
            texts = storing;
            matcher = new Matcher(storing);
            lattice = new Lattice(storing);
            for (int s = 0; s < slots.length; s++) {
                slots[s] = new Runs();
            }
        }

        /** How two texts are matched, up to a place of the second one at least; it stands until the next call. */
        Runs match(Text first, Text second, long upTo) {
            Runs known = known(first, second, upTo);
            if (known != null) {
                return known;
            }
            matcher.begin(latest, first, second, upTo);
            if (!matcher.isWithin(FEW_CELLS, SOME_ROWS)) {
                matcher.goAlong();
            }
            if (!matcher.isDone() && matcher.isWithin(SOME_CELLS, SOME_ROWS)) {
                matcher.goByBits(true, SOME_ROWS);
            }
            boolean open = !matcher.isDone() && !matcher.goBySteps(FEW_PASSED, FEW_STEPS, MANY_RUNS);
            for (int way = BLOCKS; way <= BITS && open; way++) {
                // bits of matched lines of the second text and of the first one, and what is known ahead of them
                Text[] made = {texts.none, texts.none, texts.none, texts.none};
                boolean counts = upTo <= 0 && second.length <= MOST_LINES;
                long work = workFor(first, second, upTo <= 0);
                boolean much = work > SOME_WORK;
                boolean blocks = way == BLOCKS || way == MORE_BLOCKS && much;
                boolean greedily = way == FIRST_IN_SECOND || way == SECOND_IN_FIRST;
                for (int turn = 0; blocks && turn < ROUNDS && (turn == 0 || lattice.isTight()); turn++) {
                    long pairs = way == BLOCKS ? 0L : toCover(first, second, upTo <= 0);
                    lattice.begin(way == BLOCKS && much ? SOME_WORK : work, pairs);
                    int side = lattice.sideOf(first, 0, NONE, 1L, 0);
                    int other = lattice.sideOf(second, 0, NONE, 1L, 0);
                    matcher.begin(latest, first, second, upTo);
                    if (counts) {
                        latest.takeCount(lattice.count(side, other));
                    } else {
                        lattice.goThrough(side, other, 0L, 0L, 0);
                    }
                    open = lattice.hasFailed();
                }
                if (way == STEPS && much || way == BITS) {
                    matcher.begin(latest, first, second, way == STEPS ? MOST_LENGTH : upTo);
                    matcher.goAlong();
                    open = way == STEPS && !matcher.goBySteps(MANY_PASSED, MANY_STEPS, MOST_TURNS);
                }
                boolean told = way == BITS && matcher.goByBits(false, mostOf(first, second)) || blocks && counts;
                for (int pass = 0; pass < made.length && (greedily ? pass == 0 || !open : !open && !told); pass++) {
                    if (greedily) {
                        matcher.begin(latest, first, second, upTo);
                    }
                    int most = greedily && pass == Matcher.TRYING ? MOST_GREEDY : MOST_DRAFTS;
                    for (int turn = 0; turn < most && drafts(way, pass, made); turn++) {
                        made[pass] = texts.finish();
                    }
                    open = greedily && (pass == Matcher.TRYING ? !matcher.isThrough(way == SECOND_IN_FIRST) : open);
                }
                if (!open && !told) {
                    int own = way == SECOND_IN_FIRST ? Matcher.IN_HOST : Matcher.IN_WHOLE;
                    matcher.begin(latest, first, second, upTo);
                    latest.takeMasks(made[own], made[Matcher.IN_HOST + Matcher.IN_WHOLE - own], SOME_RUNS, texts);
                }
                latest.worth = way + 1;
            }
            Runs slot = slotFor(first, second, upTo);
            return latest.count > FEW_RUNS || latest.worth < slot.worth ? latest : slot.copy(latest);
        }

        /** What is known of a matching, or null; for its length alone, that of the other way round is as good. */
        private Runs known(Text first, Text second, long upTo) {
            Runs slot = slotFor(first, second, upTo);
            if (slot.tells(first, second, upTo) || latest.tells(first, second, upTo)) {
                return slot.tells(first, second, upTo) ? slot : latest;
            }
            slot = slotFor(second, first, upTo);
            // of an empty text, all that there is may have been asked for
            boolean lengthAlone = upTo <= 0 && second.length > 0;
            return lengthAlone && slot.tells(second, first, upTo) ? slot : null;
        }

        /** The slot that has a matching; or else the one of some that is to get it, as it has what was less work. */
        private Runs slotFor(Text first, Text second, long upTo) {
            int mixed = first.rank * FACTOR + second.rank;
            int place = (mixed ^ mixed >>> 16) & (SLOTS - 1);
            Runs least = slots[place];
            for (int k = 0; k < FEW_SLOTS; k++) {
                Runs slot = slots[place ^ k];
                if (slot.tells(first, second, upTo)) {
                    return slot;
                }
                least = slot.worth < least.worth ? slot : least;
            }
            return least;
        }

        /** Drafts what is to be made next in a pass, on a way that leads to the ends of the texts; or returns false. */
        private boolean drafts(int way, int pass, Text[] made) {
            boolean crossed = way == SECOND_IN_FIRST;
            boolean second = pass == Matcher.IN_HOST;
            if (way == FIRST_IN_SECOND || crossed) {
                boolean goes = matcher.goGreedily(pass, crossed, made);
                matcher.draftGreedily(pass, crossed, made[pass]);
                return goes;
            }
            if (pass < Matcher.IN_HOST) {
                return pass == 0 && (way == BLOCKS || way == MORE_BLOCKS) && lattice.draftsOne(made[pass]);
            }
            if (way == BITS) {
                return matcher.draftsMet(second, made[pass]);
            }
            if (way == STEPS) {
                latest.draftRows(second, texts);
            } else {
                lattice.draftPassed(second, latest.lengthOf(second));
            }
            return made[pass].length == 0;
        }

        private static long pairsOf(Text first, Text second) {
            boolean many = second.length > 0 && first.length > MOST_LENGTH / second.length;
            return many ? MOST_LENGTH : first.length * second.length;
        }

        /** As much work for the blocks as the bits for all pairs of lines would take; a little more for few of them. */
        private static long workFor(Text first, Text second, boolean lengthAlone) {
            long pairs = pairsOf(first, second);
            return isBeyond(first, second, lengthAlone) ? MOST_WORK
                    : Math.min(MOST_WORK, Math.max(FEW_WORK, pairs / PAIRS_OF_WORK));
        }

        /** Whether the texts are too long to be gone through by bits. */
        private static boolean isBeyond(Text first, Text second, boolean lengthAlone) {
            return pairsOf(first, second) > MOST_PAIRS
                    || !lengthAlone && Math.max(first.length, second.length) > MOST_LINES;
        }

        /** How many pairs of lines blocks are to cover with a quarter of the work, for hope that they cover all with it. */
        private static long toCover(Text first, Text second, boolean lengthAlone) {
            return isBeyond(first, second, lengthAlone) ? 0L : pairsOf(first, second) / LEAST_COVERED;
        }

        /** How many lines are gone through by bits: all, unless that would hardly ever end. */
        private static long mostOf(Text first, Text second) {
            return pairsOf(first, second) > MOST_PAIRS ? WINDOW : MOST_LENGTH;
        }

        /** The bits of the lines of a text that are matched. */
        Text maskOf(Runs runs, boolean second) {
            Text mask = second ? runs.secondMask : runs.firstMask;
            if (mask != null) {
                return mask;
            }
            runs.draftRows(second, texts);
            return texts.finish();
        }

        /**
         * Makes bits of bits: those that both have, or the first row alone, or just one; or those of the first row
         * that are taken where the second one has 1; or those of the second row, put where the first one has 1. It is
         * done part by part, and what comes out of two parts is kept, as long texts have the same ones again and again.
         */
        Text weave(int way, Text x, Text y, int depth) {
            if (isFirst(way, x, y) || depth > MOST_DEPTH) {
                return x;
            }
            if (isSecond(way, x, y)) {
                return y;
            }
            if (draftsSimply(way, x, y)) {
                return texts.finish();
            }
            int slot = slotOf(way, x, y);
            if (slot < woven.length && woven[slot] != null && wovenPairs[slot] == pairOf(x, y)) {
                return woven[slot];
            }
            long place = depth > USUAL_DEPTH ? x.length / 2 : x.ones == x.length ? y.middle() : x.middle();
            long otherPlace = way == PUT ? x.onesAhead(place) : place;
            texts.begin();
            texts.addPart(x, 0L, place);
            Text front = texts.finish();
            texts.begin();
            texts.addPart(y, 0L, otherPlace);
            front = weave(way, front, texts.finish(), depth + 1);
            texts.begin();
            texts.addPart(x, place, x.length);
            Text behind = texts.finish();
            texts.begin();
            texts.addPart(y, otherPlace, y.length);
            behind = weave(way, behind, texts.finish(), depth + 1);
            texts.begin();
            texts.addPart(front, 0L, front.length);
            texts.addPart(behind, 0L, behind.length);
            Text made = texts.finish();
            keep(way, x, y, made);
            return made;
        }

        private int slotOf(int way, Text x, Text y) {
            int section = woven.length / WAYS;
            return way * section + (x.rank * FACTOR + y.rank >>> 5 & section - 1);
        }

        private void keep(int way, Text x, Text y, Text made) {
            wovenCount++;
            if (wovenCount > 2L * woven.length && woven.length < MOST_WOVEN) {
                woven = new Text[8 * woven.length];
                wovenPairs = new long[woven.length];
                wovenCount = 0L;
            }
            int slot = slotOf(way, x, y);
            if (slot < woven.length && slot < wovenPairs.length) {
                woven[slot] = made;
                wovenPairs[slot] = pairOf(x, y);
            }
        }

        private static long pairOf(Text x, Text y) {
            return (long) x.rank << HALF | y.rank & LOWER_HALF;
        }

        private static boolean isFirst(int way, Text x, Text y) {
            if (way == FIRST_ALONE) {
                return x.ones == 0 || y.ones == 0;
            }
            if (way == UNLIKE) {
                return y.ones == 0;
            }
            return y.ones == y.length || way == BOTH && (x.ones == 0 || x == y);
        }

        private static boolean isSecond(int way, Text x, Text y) {
            if (way == UNLIKE) {
                return x.ones == 0;
            }
            return (way == BOTH || way == PUT) && x.ones == x.length;
        }

        private boolean draftsSimply(int way, Text x, Text y) {
            texts.begin();
            if (y.ones == 0 || way == UNLIKE && x == y || way == FIRST_ALONE && (y.ones == y.length || x == y)) {
                texts.addTimes(0, way == TAKEN ? 0L : x.length);
                return true;
            }
            if (way == TAKEN && (x.ones == 0 || x.ones == x.length || x == y)) {
                texts.addTimes(x.ones == 0 ? 0 : 1, y.ones);
                return true;
            }
            long ahead = 0L;
            for (long k = 0L; x.length <= FEW_BITS && k < x.length; k++) {
                int own = x.at(k);
                int other = y.at(way == PUT ? ahead : k);
                ahead += own;
                if (way == UNLIKE) {
                    texts.add(own ^ other);
                } else if (way != TAKEN || other == 1) {
                    texts.add(way == FIRST_ALONE ? own & ~other : way == TAKEN ? own : own & other);
                }
            }
            return x.length <= FEW_BITS;
        }

        /** For each file of the first tree the file of the second one that it was moved to, or NONE. */
        void findMoves(Tree from, Tree to, int[] targets) {
            int taken = 0;
            for (int f = 0; f < targets.length; f++) {
                targets[f] = NONE;
            }
            for (int round = 0; round < FILES; round++) {
                int best = LIKE_ENOUGH - 1;
                int gone = NONE;
                int fresh = NONE;
                for (int f = 0; f < targets.length; f++) {
                    if (!from.has(f) || to.has(f) || targets[f] != NONE) {
                        continue;
                    }
                    for (int g = 0; g < FILES; g++) {
                        if (!to.has(g) || from.has(g) || (taken >> g & 1) != 0) {
                            continue;
                        }
                        Text one = from.files[f];
                        Text other = to.files[g];
                        // no need to match texts that could not be alike enough even if one stood in the other one
                        int like = likeness(one, other, Math.min(one.length, other.length));
                        if (like > best) {
                            like = likeness(one, other, match(one, other, 0L).common);
                        }
                        if (like > best) {
                            best = like;
                            gone = f;
                            fresh = g;
                        }
                    }
                }
                if (gone == NONE) {
                    return;
                }
                targets[gone] = fresh;
                taken |= 1 << fresh;
            }
        }

        /** Put together bit by bit: 200 times a length, or the sum of two, may be more than a long tells. */
        private static int likeness(Text one, Text other, long common) {
            if (one.length == 0 && other.length == 0) {
                return SAME;
            }
            int like = 0;
            for (int bit = 64; bit > 0; bit >>= 1) {
                int more = like + bit;
                long low = LIKE_FACTOR * (common & LOWER_HALF)
                        - more * ((one.length & LOWER_HALF) + (other.length & LOWER_HALF));
                long high = LIKE_FACTOR * (common >> HALF) - more * ((one.length >> HALF) + (other.length >> HALF));
                like = high + (low >> HALF) >= 0 ? more : like;
            }
            return like;
        }
    }

    /**
     * Merges three texts, and remembers what conflicts were settled to. With too many rows of matched lines, it is done
     * by units: a unit is a firm line with what is behind it up to the next one; the first unit has no firm line.
     */
    private static final class TextMerge {
        private static final int SLOTS = 1 << 14;
        private static final int FEW_UNITS = 256;
        private static final int USUAL_DEPTH = 140;
        private static final int MOST_DEPTH = 240;
        boolean left;
        boolean settling;
        int pairs;
        private final Texts texts;
        private final Compare compare;
        private final Text[] oursParts = new Text[MOST_PAIRS];
        private final Text[] theirsParts = new Text[MOST_PAIRS];
        private final Text[] became = new Text[MOST_PAIRS];
        private final Runs inOurs = new Runs();
        private Text base;
        private Text ours;
        private Text theirs;
        // bits, 1 for the firm lines
        private Text firm;
        private Text oursFirm;
        private Text theirsFirm;
        // what came out of some units: all their lines and bits, of which those of ours and theirs are so many
        private Text[] parts = new Text[0];
        private long[] oursSizes = new long[0];
        private long[] theirsSizes = new long[0];
        private Text[] joined = new Text[0];

        TextMerge(Texts texts, Compare compare) {
            this.texts = texts;
            this.compare = compare;
        }

        void remember(Text oursPart, Text theirsPart, Text result) {
            int place = pairs;
            for (int p = 0; p < pairs && p < MOST_PAIRS; p++) {
                if (oursParts[p] == oursPart && theirsParts[p] == theirsPart) {
                    place = p;
                }
            }
            if (place < MOST_PAIRS) {
                oursParts[place] = oursPart;
                theirsParts[place] = theirsPart;
                became[place] = result;
                pairs += place == pairs ? 1 : 0;
            }
        }

        /** What a part of ours and one of theirs were settled to, or null. */
        private Text recall(long o, long oEnd, long t, long tEnd) {
            for (int p = 0; settling && p < pairs && p < MOST_PAIRS; p++) {
                Text one = oursParts[p];
                Text other = theirsParts[p];
                if (one.length == oEnd - o && other.length == tEnd - t
                        && texts.common(one, 0L, ours, o, false) >= one.length
                        && texts.common(other, 0L, theirs, t, false) >= other.length) {
                    return became[p];
                }
            }
            return null;
        }

        private boolean isSame(Text one, long from, long to, Text other, long otherFrom, long otherTo) {
            return to - from == otherTo - otherFrom
                    && (to == from || texts.common(one, from, other, otherFrom, false) >= to - from);
        }

        /** Returns the merged text; left becomes whether it has a conflict left. */
        Text join(Text baseText, Text oursText, Text theirsText) {
            left = false;
            if (oursText == theirsText || theirsText == baseText) {
                return oursText;
            }
            if (oursText == baseText) {
                return theirsText;
            }
            base = baseText;
            ours = oursText;
            theirs = theirsText;
            inOurs.copy(compare.match(base, ours, ours.length));
            Runs inTheirs = compare.match(base, theirs, theirs.length);
            if (inOurs.plain && inTheirs.plain) {
                return joinRows(inTheirs);
            }
            Text inBase = compare.maskOf(inOurs, false);
            Text inBaseToo = compare.maskOf(inTheirs, false);
            Text inTheirsToo = compare.maskOf(inTheirs, true);
            oursFirm = compare.maskOf(inOurs, true);
            firm = compare.weave(Compare.BOTH, inBase, inBaseToo, 0);
            oursFirm = compare.weave(Compare.PUT, oursFirm, compare.weave(Compare.TAKEN, firm, inBase, 0), 0);
            theirsFirm = compare.weave(Compare.TAKEN, firm, inBaseToo, 0);
            theirsFirm = compare.weave(Compare.PUT, inTheirsToo, theirsFirm, 0);
            forgetUnits();
            return joinUnits(0L, firm.ones + 1, 0);
        }

        private Text joinRows(Runs inTheirs) {
            texts.begin();
            long b = 0L;
            long o = 0L;
            long t = 0L;
            int one = 0;
            int other = 0;
            while (one < inOurs.count && other < inTheirs.count) {
                long end = Math.min(inOurs.endInFirst(one), inTheirs.endInFirst(other));
                long firm = Math.max(inOurs.inFirst(one), inTheirs.inFirst(other));
                if (firm < end) {
                    long oursFirm = inOurs.endInSecond(one) - (inOurs.endInFirst(one) - firm);
                    long theirsFirm = inTheirs.endInSecond(other) - (inTheirs.endInFirst(other) - firm);
                    addPart(b, firm, o, oursFirm, t, theirsFirm);
                    b = end;
                    o = oursFirm + end - firm;
                    t = theirsFirm + end - firm;
                    texts.addPart(ours, oursFirm, o);
                }
                if (inOurs.endInFirst(one) == end) {
                    one++;
                } else {
                    other++;
                }
            }
            addPart(b, base.length, o, ours.length, t, theirs.length);
            return texts.finish();
        }

        private void forgetUnits() {
            if (parts.length == 0) {
                parts = new Text[SLOTS];
                joined = new Text[SLOTS];
                oursSizes = new long[SLOTS];
                theirsSizes = new long[SLOTS];
            }
            for (int slot = 0; slot < parts.length; slot++) {
                parts[slot] = null;
                joined[slot] = null;
            }
        }

        private static long startOf(Text mask, long unit) {
            return unit == 0 ? 0L : mask.placeOfOne(unit - 1);
        }

        /**
         * Merges some units: all at once if one side has changed nothing there, or few one by one, otherwise half by
         * half. With NONE as the depth, what comes out is added to a draft that was begun.
         */
        private Text joinUnits(long from, long to, int depth) {
            long b = startOf(firm, from);
            long bEnd = startOf(firm, to);
            long o = startOf(oursFirm, from);
            long oEnd = startOf(oursFirm, to);
            long t = startOf(theirsFirm, from);
            long tEnd = startOf(theirsFirm, to);
            if (depth != NONE) {
                texts.begin();
            }
            if (to - from <= 1 || depth > MOST_DEPTH) {
                long own = from == 0 ? 0L : 1L;
                texts.addPart(ours, o, o + own);
                addPart(b + own, bEnd, o + own, oEnd, t + own, tEnd);
                return depth == NONE ? texts.none : texts.finish();
            }
            boolean oursComes = isSame(theirs, t, tEnd, base, b, bEnd) && isSame(theirsFirm, t, tEnd, firm, b, bEnd)
                    || isSame(theirs, t, tEnd, ours, o, oEnd) && isSame(theirsFirm, t, tEnd, oursFirm, o, oEnd);
            boolean theirsComes = isSame(ours, o, oEnd, base, b, bEnd) && isSame(oursFirm, o, oEnd, firm, b, bEnd);
            if (oursComes || theirsComes) {
                texts.addPart(oursComes ? ours : theirs, oursComes ? o : t, oursComes ? oEnd : tEnd);
                return texts.finish();
            }
            if (to - from <= FEW_UNITS) {
                for (long unit = from; unit < to; unit++) {
                    joinUnits(unit, unit + 1, NONE);
                }
                return texts.finish();
            }
            texts.addPart(base, b, bEnd);
            texts.addPart(firm, b, bEnd);
            texts.addPart(ours, o, oEnd);
            texts.addPart(oursFirm, o, oEnd);
            texts.addPart(theirs, t, tEnd);
            texts.addPart(theirsFirm, t, tEnd);
            Text all = texts.finish();
            int slot = all.rank >>> 7 & SLOTS - 1;
            if (parts[slot] == all && oursSizes[slot] == oEnd - o && theirsSizes[slot] == tEnd - t) {
                return joined[slot];
            }
            boolean byOurs = oEnd - o >= tEnd - t;
            texts.begin();
            texts.addPart(byOurs ? ours : theirs, byOurs ? o : t, byOurs ? oEnd : tEnd);
            // parted at a place that is the same wherever these lines stand, so that the same parts are met again
            long place = (byOurs ? o : t) + texts.finish().middle();
            long middle = (byOurs ? oursFirm : theirsFirm).onesAhead(place) + 1;
            middle = middle <= from || middle >= to || depth > USUAL_DEPTH ? (from + to) >>> 1 : middle;
            Text front = joinUnits(from, middle, depth + 1);
            Text behind = joinUnits(middle, to, depth + 1);
            texts.begin();
            texts.addPart(front, 0L, front.length);
            texts.addPart(behind, 0L, behind.length);
            joined[slot] = texts.finish();
            parts[slot] = all;
            oursSizes[slot] = oEnd - o;
            theirsSizes[slot] = tEnd - t;
            return joined[slot];
        }

        /** Adds what comes out of the parts between firm lines. */
        private void addPart(long b, long bEnd, long o, long oEnd, long t, long tEnd) {
            if (isSame(ours, o, oEnd, base, b, bEnd)) {
                texts.addPart(theirs, t, tEnd);
                return;
            }
            if (isSame(theirs, t, tEnd, base, b, bEnd) || isSame(theirs, t, tEnd, ours, o, oEnd)) {
                texts.addPart(ours, o, oEnd);
                return;
            }
            Text result = recall(o, oEnd, t, tEnd);
            if (result != null) {
                texts.addPart(result, 0L, result.length);
                return;
            }
            left = true;
            texts.add(OURS_MARK);
            texts.addPart(ours, o, oEnd);
            texts.add(THEIRS_MARK);
            texts.addPart(theirs, t, tEnd);
            texts.add(END_MARK);
        }
    }

    /** Merges three trees and lists the conflicts. */
    private static final class TreeMerge {
        final Tree merged = new Tree();
        int found;
        private final Text none;
        private final Compare compare;
        private final TextMerge merging;
        private final int[] oursMoves = new int[FILES];
        private final int[] theirsMoves = new int[FILES];
        private final char[] kinds = new char[MOST_CONFLICTS];
        private final int[] places = new int[MOST_CONFLICTS];
        private Tree base;
        private Tree ours;
        private Tree theirs;
        private int target;
        private Text baseText;
        private Text oursText;
        private Text theirsText;

        TreeMerge(Text none, Compare compare, TextMerge merging) {
            this.none = none;
            this.compare = compare;
            this.merging = merging;
        }

        /** Puts the merged tree into merged, which must be none of the three, and the conflicts' number into found. */
        void join(Tree baseTree, Tree oursTree, Tree theirsTree, boolean settling) {
            base = baseTree;
            ours = oursTree;
            theirs = theirsTree;
            merging.settling = settling;
            merged.clear();
            found = 0;
            compare.findMoves(base, ours, oursMoves);
            compare.findMoves(base, theirs, theirsMoves);
            for (int step = 0; step < 2 * FILES; step++) {
                int file = step % FILES;
                boolean old = step < FILES;
                if (base.has(file) == old) {
                    choose(file, old);
                    if (baseText == null || oursText == null || theirsText == null) {
                        continue;
                    }
                    Text text = merging.join(baseText, oursText, theirsText);
                    if (merging.left) {
                        note(old ? 'x' : 'a', target);
                    }
                    Text there = merged.get(target);
                    if (there != null) {
                        text = merging.join(none, there, text);
                        note('p', target);
                    }
                    merged.put(target, text);
                }
            }
        }

        char kindAt(int conflict) {
            return conflict < 0 || conflict >= kinds.length ? NOTHING : kinds[conflict];
        }

        int fileAt(int conflict) {
            return entryOf(places, conflict);
        }

        private void note(char kind, int file) {
            if (found < kinds.length && found < places.length) {
                kinds[found] = kind;
                places[found] = file;
                found++;
            }
        }

        /** Chooses the texts to be merged, or none if no file comes out, and the file that gets what comes out. */
        private void choose(int file, boolean old) {
            baseText = null;
            if (old) {
                chooseOld(file);
            } else {
                baseText = none;
                oursText = isTarget(oursMoves, file) ? null : ours.get(file);
                theirsText = isTarget(theirsMoves, file) ? null : theirs.get(file);
                oursText = oursText == null ? theirsText : oursText;
                theirsText = theirsText == null ? oursText : theirsText;
                target = file;
            }
        }

        private void chooseOld(int file) {
            int o = ours.has(file) ? file : entryOf(oursMoves, file);
            int t = theirs.has(file) ? file : entryOf(theirsMoves, file);
            if (o != NONE && t != NONE) {
                baseText = base.get(file);
                oursText = ours.get(o);
                theirsText = theirs.get(t);
                target = o == file ? t : o;
                if (o != file && t != file && o != t) {
                    note('n', target);
                }
            } else if (o != NONE || t != NONE) {
                target = o == NONE ? t : o;
                Text stays = o == NONE ? theirs.get(t) : ours.get(o);
                if (target != file || stays != base.get(file)) {
                    baseText = stays;
                    oursText = stays;
                    theirsText = stays;
                    note('d', target);
                }
            }
        }

        private static boolean isTarget(int[] moves, int file) {
            for (int f = 0; f < moves.length; f++) {
                if (moves[f] == file) {
                    return true;
                }
            }
            return false;
        }
    }

    /**
     * The commits, the branches with their logs, and the search for the first bad commit; what a commit reaches is a
     * set of bits, so are candidates.
     */
    private static final class Graph {
        private static final int USUAL_ENTRIES = 16;
        int made;
        int present;
        int lastBad = NONE;
        private long candidates;
        private long passed;
        private long there;
        private final Tree nothing = new Tree();
        private final Tree[] trees = new Tree[MOST_COMMITS];
        private final int[] firsts = new int[MOST_COMMITS];
        private final int[] seconds = new int[MOST_COMMITS];
        private final int[] labels = new int[MOST_COMMITS];
        private final long[] reach = new long[MOST_COMMITS];
        private final long[] sums = new long[MOST_COMMITS];
        private final int[] tips = new int[BRANCHES];
        private final int[][] logs = new int[BRANCHES][USUAL_ENTRIES];
        private final int[] logged = new int[BRANCHES];

        Graph() {
            for (int c = 0; c < trees.length; c++) {
                trees[c] = new Tree();
            }
            for (int b = 0; b < tips.length; b++) {
                tips[b] = NONE;
            }
        }

        boolean isFull() {
            return made >= MOST_COMMITS;
        }

        boolean isThere(int commit) {
            return commit >= 0 && commit < made && commit < MOST_COMMITS && (there >> commit & 1L) != 0;
        }

        int size() {
            return Long.bitCount(there);
        }

        /** The tree of a commit, or one without files if there is no such commit. */
        Tree treeOf(int commit) {
            return isThere(commit) ? trees[commit] : nothing;
        }

        int labelOf(int commit) {
            return isThere(commit) ? labels[commit] : NONE;
        }

        long sumOf(int commit) {
            return isThere(commit) ? sums[commit] : 0L;
        }

        long reachOf(int commit) {
            return isThere(commit) ? reach[commit] : 0L;
        }

        int parentOf(int commit, int which) {
            if (!isThere(commit) || which < 0 || which > 1) {
                return NONE;
            }
            return which == 0 ? firsts[commit] : seconds[commit];
        }

        boolean doesReach(int commit, int other) {
            return isThere(other) && (reachOf(commit) >> other & 1L) != 0;
        }

        long basesOf(int commit, int other) {
            long both = reachOf(commit) & reachOf(other);
            long covered = 0L;
            for (int c = 0; c < made && c < MOST_COMMITS; c++) {
                if ((both >> c & 1L) != 0) {
                    covered |= reachOf(c) & ~(1L << c);
                }
            }
            return both & ~covered;
        }

        int add(Tree tree, int first, int second, int label) {
            int commit = made;
            if (commit < 0 || commit >= MOST_COMMITS) {
                return NONE;
            }
            trees[commit].copy(tree);
            firsts[commit] = first;
            seconds[commit] = second;
            labels[commit] = label;
            reach[commit] = 1L << commit | reachOf(first) | reachOf(second);
            sums[commit] = sumUp(tree, first, second, label);
            there |= 1L << commit;
            made++;
            return commit;
        }

        /** Done once, when the commit is made: what goes into the sum never changes. */
        private long sumUp(Tree tree, int first, int second, int label) {
            long sum = SUM_FACTOR * (long) SUM_START + label;
            for (int f = 0; f < FILES; f++) {
                Text text = tree.get(f);
                if (text != null) {
                    sum = (SUM_FACTOR * sum + SUM_FILE + f) * text.factor + text.addend;
                }
            }
            if (isThere(first)) {
                sum = SUM_FACTOR * sum + sumOf(first);
            }
            if (isThere(second)) {
                sum = SUM_FACTOR * sum + sumOf(second);
            }
            return sum;
        }

        int keepOnly(long held) {
            int before = size();
            there &= held;
            return before - size();
        }

        int countParents() {
            int count = 0;
            for (int c = 0; c < made; c++) {
                count += parentOf(c, 0) == NONE ? 0 : 1;
                count += parentOf(c, 1) == NONE ? 0 : 1;
            }
            return count;
        }

        // ---- the branches and their logs

        int tip(int branch) {
            return entryOf(tips, branch);
        }

        int head() {
            return entryOf(tips, present);
        }

        boolean hasBranch(int branch) {
            return branch == present || tip(branch) != NONE;
        }

        int countBranches() {
            int count = 0;
            for (int b = 0; b < BRANCHES; b++) {
                count += hasBranch(b) ? 1 : 0;
            }
            return count;
        }

        /** The entry of a log, 0 for the latest one, or NONE. */
        int entry(int branch, int place) {
            if (branch < 0 || branch >= BRANCHES || place < 0) {
                return NONE;
            }
            return place >= logged[branch] ? NONE : entryOf(logs[branch], logged[branch] - 1 - place);
        }

        void give(int branch, int commit) {
            if (branch < 0 || branch >= BRANCHES || tips[branch] == commit) {
                return;
            }
            tips[branch] = commit;
            int used = logged[branch];
            if (used >= logs[branch].length && used < MOST_ENTRIES) {
                logs[branch] = Arrays.copyOf(logs[branch], 2 * used);
            }
            int[] log = logs[branch];
            if (used >= log.length) {
                // Only behind the last call that the document speaks of: the oldest entry makes room.
                used = log.length - 1;
                System.arraycopy(log, 1, log, 0, used);
            }
            log[used] = commit;
            logged[branch] = used + 1;
        }

        void dropBranch(int branch) {
            if (branch >= 0 && branch < BRANCHES) {
                tips[branch] = NONE;
                logged[branch] = 0;
            }
        }

        // ---- the search; without candidates, nothing is searched

        void beginHunt(long all, int bad) {
            candidates = all;
            passed = 0L;
            lastBad = bad;
        }

        void endHunt() {
            beginHunt(0L, NONE);
        }

        int huntSize() {
            return Long.bitCount(candidates);
        }

        boolean isCandidate(int commit) {
            return commit >= 0 && commit < MOST_COMMITS && (candidates >> commit & 1L) != 0;
        }

        void ruleOut(int good) {
            candidates &= ~reachOf(good);
        }

        void keepToBad(int bad) {
            candidates &= reachOf(bad);
            lastBad = bad;
        }

        void passOver(int commit) {
            passed |= 1L << commit;
        }

        int bestCandidate() {
            int best = NONE;
            int most = NONE;
            for (int c = 0; c < MOST_COMMITS; c++) {
                if (!isCandidate(c) || (passed >> c & 1L) != 0 || c == lastBad) {
                    continue;
                }
                int reached = Long.bitCount(candidates & reachOf(c));
                int others = huntSize() - reached;
                int lesser = reached < others ? reached : others;
                if (lesser > most) {
                    most = lesser;
                    best = c;
                }
            }
            return best;
        }
    }

    /**
     * Follows lines of the head to the commits to which they are due. All lines that have come to a file of a commit
     * go on from there at once, and each line of that file but once: a number tells how many have come to it, as many
     * do where there are many ways. The numbers are told by bounds, the places where they change; or, where there are
     * too many of these or a matching has too many rows, by bits: for each binary digit 1 for the lines that have it.
     */
    private static final class Blame {
        // Commits with two parents at most let 60 of them be reached in less than 2 to the 42 ways.
        private static final int DIGITS = 42;
        private static final int USUAL_BOUNDS = 64;
        private static final int SOME_BOUNDS = 1 << 13;
        private static final int MANY_BOUNDS = 1 << 16;
        private static final int MOST_BOUNDS = 1 << 18;
        private static final int FEW_ROWS = 16;
        private static final int TOP_BIT = 63;
        private static final int FLOAT_SHIFT = 4;
        // the lists that are put together, bound by bound
        private static final int HANDED = 0;
        private static final int RESTING = 1;
        private static final int JOINED = 2;
        private static final int LISTS = 3;
        int last;
        boolean sound;
        private final Graph graph;
        private final Texts texts;
        private final Compare compare;
        private final int[] moves = new int[FILES];
        // how many lines are due to a commit, and behind them how many lines there are; sums of longs, in two parts
        private final long[] counted = new long[MOST_COMMITS + 1];
        private final long[] countedHigh = new long[MOST_COMMITS + 1];
        // for each file of a commit the first bound, each linked to the next one
        private final int[] heads = new int[MOST_COMMITS * FILES];
        private int[] links = new int[USUAL_BOUNDS];
        private long[] places = new long[USUAL_BOUNDS];
        private long[] changes = new long[USUAL_BOUNDS];
        private int used;
        private int unused;
        private int held;
        private final int[] firsts = new int[LISTS];
        private final int[] lasts = new int[LISTS];
        // for each file of a commit the bits of each digit, or null; and those that come to one
        private final Text[] digits = new Text[MOST_COMMITS * FILES * DIGITS];
        private final Text[] coming = new Text[DIGITS];

        Blame(Graph graph, Texts texts, Compare compare) {
            this.graph = graph;
            this.texts = texts;
            this.compare = compare;
        }

        void begin() {
            last = NONE;
            sound = true;
            used = 0;
            unused = NONE;
            held = 0;
            Arrays.fill(heads, NONE);
            Arrays.fill(counted, 0L);
            Arrays.fill(countedHigh, 0L);
            for (int k = 0; k < digits.length; k++) {
                digits[k] = null;
            }
        }

        /** Lets some lines of a commit be followed. */
        void add(int commit, int file, long from, long size) {
            int spot = commit * FILES + file;
            if (spot >= 0 && spot < heads.length && size > 0) {
                beginList(HANDED);
                addRow(HANDED, from, from + size, 1L);
                heads[spot] = joined(heads[spot], firsts[HANDED]);
                count(MOST_COMMITS, size, 0);
            }
        }

        /** Counts lines, each so many times as the digit says. */
        private void count(int place, long size, int digit) {
            if (place >= 0 && place < counted.length && place < countedHigh.length) {
                long sum = counted[place] + (size << digit & MOST_LENGTH);
                counted[place] = sum & MOST_LENGTH;
                countedHigh[place] += (size >>> TOP_BIT - digit) + (sum < 0 ? 1L : 0L);
            }
        }

        boolean hasLines() {
            return counted[MOST_COMMITS] > 0 || countedHigh[MOST_COMMITS] > 0;
        }

        float allLines() {
            return dueTo(MOST_COMMITS);
        }

        /** A number of lines; if it is more than a long, what is cut off is told by a last bit, for the rounding. */
        float dueTo(int commit) {
            if (commit < 0 || commit >= counted.length || commit >= countedHigh.length) {
                return 0f;
            }
            long low = counted[commit];
            long high = countedHigh[commit];
            if (high == 0) {
                return (float) low;
            }
            long cut = (low & (1L << FLOAT_SHIFT) - 1) == 0 ? 0L : 1L;
            return (float) (high << TOP_BIT - FLOAT_SHIFT | low >> FLOAT_SHIFT | cut) * (float) (1 << FLOAT_SHIFT);
        }

        // ---- lists of bounds

        private void beginList(int list) {
            firsts[list] = NONE;
            lasts[list] = NONE;
        }

        private void addRow(int list, long from, long end, long number) {
            if (from < end) {
                addBound(list, from, number);
                addBound(list, end, -number);
            }
        }

        /** Adds a bound behind the others of a list; where the numbers go on as they were, there is none. */
        private void addBound(int list, long place, long change) {
            int tail = lasts[list];
            if (tail >= 0 && tail < used && (places[tail] == place || changes[tail] == 0)) {
                places[tail] = place;
                changes[tail] += change;
                return;
            }
            int bound = unused == NONE ? used : unused;
            if (bound >= places.length && bound < MOST_BOUNDS) {
                links = Arrays.copyOf(links, 2 * bound);
                places = Arrays.copyOf(places, 2 * bound);
                changes = Arrays.copyOf(changes, 2 * bound);
            }
            if (bound < 0 || bound >= places.length) {
                return;
            }
            if (unused == NONE) {
                used++;
            } else {
                unused = links[bound];
            }
            held++;
            links[bound] = NONE;
            places[bound] = place;
            changes[bound] = change;
            lasts[list] = bound;
            if (tail >= 0 && tail < used) {
                links[tail] = bound;
            } else {
                firsts[list] = bound;
            }
        }

        /** Gives a bound back, and returns the next one. */
        private int takeOff(int bound) {
            if (bound < 0 || bound >= used) {
                return NONE;
            }
            int next = links[bound];
            links[bound] = unused;
            unused = bound;
            held--;
            return next;
        }

        private long placeOf(int bound) {
            return bound < 0 || bound >= used ? MOST_LENGTH : places[bound];
        }

        /** One list of two, in which the numbers are those of both together. */
        private int joined(int one, int other) {
            if (one == NONE || other == NONE) {
                return one == NONE ? other : one;
            }
            int bound = one;
            int second = other;
            beginList(JOINED);
            for (int turn = 0; turn < 2 * MOST_BOUNDS && (bound >= 0 || second >= 0); turn++) {
                if (bound < 0 || second >= 0 && placeOf(second) < placeOf(bound)) {
                    int swapped = bound;
                    bound = second;
                    second = swapped;
                }
                long place = placeOf(bound);
                long change = bound < 0 || bound >= used ? 0L : changes[bound];
                bound = takeOff(bound);
                addBound(JOINED, place, change);
            }
            return firsts[JOINED];
        }

        private long endOf(int list) {
            long end = 0L;
            for (int bound = list; bound >= 0 && bound < used; bound = links[bound]) {
                end = places[bound];
            }
            return end;
        }

        private boolean isTooLong(int list) {
            int size = 0;
            for (int bound = list; bound >= 0 && bound < used; bound = links[bound]) {
                size++;
            }
            return size > (held > MANY_BOUNDS ? FEW_ROWS : SOME_BOUNDS);
        }

        // ---- bits for each digit

        private Text bitsAt(int spot, int digit) {
            int place = spot * DIGITS + digit;
            return spot < 0 || digit < 0 || place >= digits.length ? null : digits[place];
        }

        private void putBits(int spot, int digit, Text bits) {
            int place = spot * DIGITS + digit;
            if (spot >= 0 && digit >= 0 && place < digits.length) {
                digits[place] = bits.ones == 0 ? null : bits;
            }
        }

        private boolean hasBits(int spot) {
            for (int digit = 0; digit < DIGITS; digit++) {
                if (bitsAt(spot, digit) != null) {
                    return true;
                }
            }
            return false;
        }

        /** Takes the list of a file of a commit away and makes coming bits of it, unless they are not wanted. */
        private void makeBits(int spot, long length, boolean wanted) {
            int list = spot < 0 || spot >= heads.length ? NONE : heads[spot];
            long all = 0L;
            long number = 0L;
            for (int bound = list; wanted && bound >= 0 && bound < used; bound = links[bound]) {
                number += changes[bound];
                all |= number;
            }
            for (int digit = 0; digit < DIGITS; digit++) {
                if ((all >> digit & 1L) == 0) {
                    continue;
                }
                long place = 0L;
                texts.begin();
                for (int bound = list; bound >= 0 && bound < used; bound = links[bound]) {
                    texts.addTimes((int) (number >> digit & 1L), places[bound] - place);
                    place = places[bound];
                    number += changes[bound];
                }
                texts.addTimes(0, length - place);
                coming[digit] = texts.finish();
            }
            for (int bound = list; bound >= 0 && bound < used; bound = takeOff(bound)) {
                heads[spot] = NONE;
            }
        }

        /** Adds the coming numbers to those that are there, digit by digit. */
        private void addComing(int spot, long length) {
            texts.begin();
            texts.addTimes(0, length);
            Text zeros = texts.finish();
            Text carry = zeros;
            for (int digit = 0; digit < DIGITS; digit++) {
                Text own = bitsAt(spot, digit) == null ? zeros : bitsAt(spot, digit);
                Text other = coming[digit] == null ? zeros : coming[digit];
                Text unlike = compare.weave(Compare.UNLIKE, own, other, 0);
                Text full = compare.weave(Compare.BOTH, own, other, 0);
                putBits(spot, digit, compare.weave(Compare.UNLIKE, unlike, carry, 0));
                carry = compare.weave(Compare.UNLIKE, full, compare.weave(Compare.BOTH, unlike, carry, 0), 0);
                coming[digit] = null;
            }
        }

        // ---- from a commit to its parents

        /**
         * Follows the lines as far as to a commit. Parents have lower numbers, so all that goes to a commit has come to
         * it when it is its turn. Bits may be left out where only soundness is asked for: they stand for equal lines
         * alone.
         */
        void follow(int lowest, boolean bitsToo) {
            for (int spot = graph.made * FILES - 1; spot >= lowest * FILES && spot < heads.length; spot--) {
                int commit = spot / FILES;
                int file = spot % FILES;
                Tree now = graph.treeOf(commit);
                for (int which = 0; which < 2 && (heads[spot] != NONE || hasBits(spot)); which++) {
                    int parent = graph.parentOf(commit, which);
                    Tree old = graph.treeOf(parent);
                    int source = old.has(file) ? file : NONE;
                    if (source == NONE) {
                        compare.findMoves(old, now, moves);
                        for (int f = 0; f < moves.length; f++) {
                            source = moves[f] == file ? f : source;
                        }
                    }
                    if (!old.has(source) || !now.has(file)) {
                        continue;
                    }
                    Text before = old.files[source];
                    Text text = now.files[file];
                    int target = parent * FILES + source;
                    Runs runs = null;
                    if (before != text) {
                        runs = compare.match(before, text, hasBits(spot) ? text.length : endOf(heads[spot]));
                    }
                    if (runs != null && !runs.plain) {
                        makeBits(spot, text.length, bitsToo);
                        addComing(spot, text.length);
                    }
                    handOn(spot, target, runs, before, text);
                    if (hasBits(spot)) {
                        handBitsOn(spot, runs, before, text);
                        makeRows(target);
                        addComing(target, before.length);
                    }
                    if (isTooLong(heads[target])) {
                        makeBits(target, before.length, bitsToo);
                        addComing(target, before.length);
                    }
                }
                stop(spot, commit);
            }
        }

        /** Hands what is matched on to a parent, or all without a matching. */
        private void handOn(int spot, int target, Runs runs, Text before, Text text) {
            if (spot < 0 || spot >= heads.length || target < 0 || target >= heads.length) {
                return;
            }
            int list = heads[spot];
            heads[spot] = NONE;
            if (runs == null) {
                heads[target] = joined(heads[target], list);
                return;
            }
            beginList(HANDED);
            beginList(RESTING);
            long number = 0L;
            long from = 0L;
            for (int bound = list; bound >= 0 && bound < used; bound = takeOff(bound)) {
                if (number > 0) {
                    handRowOn(from, places[bound], number, runs, before, text);
                }
                from = places[bound];
                number += changes[bound];
            }
            heads[spot] = firsts[RESTING];
            heads[target] = joined(heads[target], firsts[HANDED]);
        }

        private void handRowOn(long from, long end, long number, Runs runs, Text before, Text text) {
            long place = from;
            for (int k = runs.firstBehind(from); k < runs.count && runs.inSecond(k) < end; k++) {
                long begin = Math.max(place, runs.inSecond(k));
                long stop = Math.min(end, runs.endInSecond(k));
                long source = runs.inFirst(k) + begin - runs.inSecond(k);
                addRow(RESTING, place, begin, number);
                addRow(HANDED, source, source + stop - begin, number);
                sound = sound && texts.common(before, source, text, begin, false) >= stop - begin;
                place = stop;
            }
            addRow(RESTING, place, end, number);
        }

        /** The same for bits; those that are handed on are coming. */
        private void handBitsOn(int spot, Runs runs, Text before, Text text) {
            Text inFirst = runs == null ? null : compare.maskOf(runs, false);
            Text inSecond = runs == null ? null : compare.maskOf(runs, true);
            for (int digit = 0; digit < DIGITS; digit++) {
                Text bits = bitsAt(spot, digit);
                if (bits == null) {
                    continue;
                }
                coming[digit] = bits;
                Text rest = texts.none;
                if (inFirst != null && inSecond != null) {
                    Text handed = compare.weave(Compare.TAKEN, bits, inSecond, 0);
                    coming[digit] = compare.weave(Compare.PUT, inFirst, handed, 0);
                    rest = compare.weave(Compare.FIRST_ALONE, bits, inSecond, 0);
                }
                putBits(spot, digit, rest);
            }
        }

        private boolean hasFewRows(Text bits) {
            long place = 0L;
            for (int row = 0; row < FEW_ROWS && place != NONE; row++) {
                place = texts.find(bits, 1, place, false);
                place = place == NONE ? NONE : texts.find(bits, 0, place, false);
            }
            return place == NONE;
        }

        /** Turns coming bits into rows if these are few. */
        private void makeRows(int target) {
            for (int digit = 0; digit < DIGITS && target >= 0 && target < heads.length; digit++) {
                Text bits = coming[digit];
                if (bits == null || !hasFewRows(bits)) {
                    continue;
                }
                long end = 0L;
                beginList(HANDED);
                for (int row = 0; row < FEW_ROWS && end < bits.length; row++) {
                    long from = texts.find(bits, 1, end, false);
                    end = from == NONE ? NONE : texts.find(bits, 0, from, false);
                    end = end == NONE ? bits.length : end;
                    addRow(HANDED, from == NONE ? end : from, end, 1L << digit);
                }
                heads[target] = joined(heads[target], firsts[HANDED]);
                coming[digit] = null;
            }
        }

        /** What no parent has is due to the commit. */
        private void stop(int spot, int commit) {
            if (spot < 0 || spot >= heads.length || heads[spot] == NONE && !hasBits(spot)) {
                return;
            }
            last = commit;
            long number = 0L;
            long from = 0L;
            for (int bound = heads[spot]; bound >= 0 && bound < used; bound = takeOff(bound)) {
                for (int digit = 0; digit < DIGITS; digit++) {
                    count(commit, (number >> digit & 1L) == 0 ? 0L : places[bound] - from, digit);
                }
                from = places[bound];
                number += changes[bound];
            }
            heads[spot] = NONE;
            for (int digit = 0; digit < DIGITS; digit++) {
                Text bits = bitsAt(spot, digit);
                count(commit, bits == null ? 0L : bits.ones, digit);
            }
        }
    }
}
