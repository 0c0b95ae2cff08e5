import java.util.ArrayList;
import java.util.HashSet;
import java.util.IdentityHashMap;
import java.util.List;
import java.util.Map;
import java.util.NoSuchElementException;
import java.util.Set;
import java.util.TreeMap;
import java.util.TreeSet;

/**
 * The document once more, word by word and as slowly as it likes: what RandomRuns measures the class against.
 * Nothing is kept that can be worked out anew.
 */
final class Model {
    private static final class Commit {
        final TreeMap<Integer, List<Integer>> tree;
        final List<Integer> parents;
        final int label;
        boolean collected;

        Commit(TreeMap<Integer, List<Integer>> tree, List<Integer> parents, int label) {
            this.tree = tree;
            this.parents = parents;
            this.label = label;
        }
    }

    private record Conflict(char kind, int file) {
    }

    private record Parts(List<Integer> ours, List<Integer> theirs) {
    }

    private record Spot(int commit, int file, int place) {
    }

    private TreeMap<Integer, List<Integer>> working = new TreeMap<>();
    private TreeMap<Integer, List<Integer>> index = new TreeMap<>();
    private final List<Commit> all = new ArrayList<>();
    private final Integer[] tips = new Integer[6];
    private final List<List<Integer>> logs = new ArrayList<>();
    private int present;
    private final java.util.Map<Parts, List<Integer>> memory = new java.util.HashMap<>();
    private char waiting = '-';
    private int waitingOther;
    private int waitingLabel;
    private List<Conflict> told = new ArrayList<>();
    private Set<Integer> candidates;
    private final Set<Integer> passed = new HashSet<>();
    private int lastBad;

    // what one merging of trees finds
    private List<Conflict> found;
    private boolean conflictLeft;

    Model() {
        for (int i = 0; i < 6; i++) {
            logs.add(new ArrayList<>());
        }
    }

    // ---- matching, moves, merging

    private static final Map<List<Integer>, Map<List<Integer>, TreeMap<Integer, Integer>>> matchedOnce =
            new IdentityHashMap<>();

    static int common(List<Integer> a, List<Integer> b) {
        int[][] best = new int[a.size() + 1][b.size() + 1];
        for (int i = 1; i <= a.size(); i++) {
            for (int j = 1; j <= b.size(); j++) {
                best[i][j] = a.get(i - 1).equals(b.get(j - 1)) ? best[i - 1][j - 1] + 1
                        : Math.max(best[i - 1][j], best[i][j - 1]);
            }
        }
        return best[a.size()][b.size()];
    }

    /** A text that stands in a tree is never changed, so matching two of them once is enough. */
    static TreeMap<Integer, Integer> match(List<Integer> a, List<Integer> b) {
        if (matchedOnce.size() > 400) {
            matchedOnce.clear();
        }
        return matchedOnce.computeIfAbsent(a, key -> new IdentityHashMap<>()).computeIfAbsent(b, key -> goThrough(a, b));
    }

    /** Pairs of places, as the document goes through the two texts. */
    private static TreeMap<Integer, Integer> goThrough(List<Integer> a, List<Integer> b) {
        int[][] left = new int[a.size() + 2][b.size() + 2];
        for (int i = a.size() - 1; i >= 0; i--) {
            for (int j = b.size() - 1; j >= 0; j--) {
                left[i][j] = a.get(i).equals(b.get(j)) ? left[i + 1][j + 1] + 1
                        : Math.max(left[i + 1][j], left[i][j + 1]);
            }
        }
        TreeMap<Integer, Integer> pairs = new TreeMap<>();
        int i = 0;
        int j = 0;
        while (i < a.size() && j < b.size()) {
            if (a.get(i).equals(b.get(j))) {
                pairs.put(i++, j++);
            } else if (left[i + 1][j] >= left[i][j + 1]) {
                i++;
            } else {
                j++;
            }
        }
        return pairs;
    }

    static int likeness(List<Integer> a, List<Integer> b) {
        return a.isEmpty() && b.isEmpty() ? 100 : 200 * common(a, b) / (a.size() + b.size());
    }

    static TreeMap<Integer, Integer> moves(TreeMap<Integer, List<Integer>> from, TreeMap<Integer, List<Integer>> to) {
        List<int[]> pairs = new ArrayList<>();
        for (int gone : from.keySet()) {
            for (int fresh : to.keySet()) {
                if (!to.containsKey(gone) && !from.containsKey(fresh)) {
                    int like = likeness(from.get(gone), to.get(fresh));
                    if (like >= 50) {
                        pairs.add(new int[] {like, gone, fresh});
                    }
                }
            }
        }
        pairs.sort((x, y) -> x[0] != y[0] ? y[0] - x[0] : x[1] != y[1] ? x[1] - y[1] : x[2] - y[2]);
        TreeMap<Integer, Integer> result = new TreeMap<>();
        for (int[] pair : pairs) {
            if (!result.containsKey(pair[1]) && !result.containsValue(pair[2])) {
                result.put(pair[1], pair[2]);
            }
        }
        return result;
    }

    private List<Integer> mergeTexts(List<Integer> base, List<Integer> ours, List<Integer> theirs, boolean settling) {
        conflictLeft = false;
        if (ours.equals(theirs)) {
            return ours;
        }
        if (ours.equals(base)) {
            return theirs;
        }
        if (theirs.equals(base)) {
            return ours;
        }
        TreeMap<Integer, Integer> toOurs = match(base, ours);
        TreeMap<Integer, Integer> toTheirs = match(base, theirs);
        TreeSet<Integer> firm = new TreeSet<>(toOurs.keySet());
        firm.retainAll(toTheirs.keySet());
        List<Integer> result = new ArrayList<>();
        int b = 0;
        int o = 0;
        int t = 0;
        for (int f : firm) {
            result.addAll(part(base.subList(b, f), ours.subList(o, toOurs.get(f)),
                    theirs.subList(t, toTheirs.get(f)), settling));
            result.add(base.get(f));
            b = f + 1;
            o = toOurs.get(f) + 1;
            t = toTheirs.get(f) + 1;
        }
        result.addAll(part(base.subList(b, base.size()), ours.subList(o, ours.size()),
                theirs.subList(t, theirs.size()), settling));
        return result;
    }

    private List<Integer> part(List<Integer> base, List<Integer> ours, List<Integer> theirs, boolean settling) {
        if (ours.equals(base)) {
            return theirs;
        }
        if (theirs.equals(base) || theirs.equals(ours)) {
            return ours;
        }
        Parts parts = new Parts(new ArrayList<>(ours), new ArrayList<>(theirs));
        if (settling && memory.containsKey(parts)) {
            return memory.get(parts);
        }
        conflictLeft = true;
        List<Integer> marked = new ArrayList<>();
        marked.add(100);
        marked.addAll(ours);
        marked.add(101);
        marked.addAll(theirs);
        marked.add(102);
        return marked;
    }

    private TreeMap<Integer, List<Integer>> mergeTrees(TreeMap<Integer, List<Integer>> base,
            TreeMap<Integer, List<Integer>> ours, TreeMap<Integer, List<Integer>> theirs, boolean settling) {
        found = new ArrayList<>();
        TreeMap<Integer, List<Integer>> result = new TreeMap<>();
        TreeMap<Integer, Integer> mine = moves(base, ours);
        TreeMap<Integer, Integer> other = moves(base, theirs);
        for (int file : base.keySet()) {
            Integer o = ours.containsKey(file) ? Integer.valueOf(file) : mine.get(file);
            Integer t = theirs.containsKey(file) ? Integer.valueOf(file) : other.get(file);
            if (o == null && t == null) {
                continue;
            }
            if (o == null || t == null) {
                int where = o == null ? t : o;
                List<Integer> text = o == null ? theirs.get(t) : ours.get(o);
                if (where == file && text.equals(base.get(file))) {
                    continue;
                }
                found.add(new Conflict('d', where));
                putText(result, where, text, settling);
                continue;
            }
            boolean oursMoved = o != file;
            boolean theirsMoved = t != file;
            int where = oursMoved ? o : t;
            if (oursMoved && theirsMoved && !o.equals(t)) {
                found.add(new Conflict('n', where));
            }
            List<Integer> text = mergeTexts(base.get(file), ours.get(o), theirs.get(t), settling);
            if (conflictLeft) {
                found.add(new Conflict('x', where));
            }
            putText(result, where, text, settling);
        }
        for (int file = 0; file < 6; file++) {
            boolean oursNew = ours.containsKey(file) && !base.containsKey(file) && !mine.containsValue(file);
            boolean theirsNew = theirs.containsKey(file) && !base.containsKey(file) && !other.containsValue(file);
            if (oursNew && theirsNew) {
                List<Integer> text = mergeTexts(List.of(), ours.get(file), theirs.get(file), settling);
                if (conflictLeft) {
                    found.add(new Conflict('a', file));
                }
                putText(result, file, text, settling);
            } else if (oursNew || theirsNew) {
                putText(result, file, oursNew ? ours.get(file) : theirs.get(file), settling);
            }
        }
        return result;
    }

    private void putText(TreeMap<Integer, List<Integer>> tree, int file, List<Integer> text, boolean settling) {
        if (!tree.containsKey(file)) {
            tree.put(file, text);
            return;
        }
        tree.put(file, mergeTexts(List.of(), tree.get(file), text, settling));
        found.add(new Conflict('p', file));
    }

    // ---- the graph


    private final java.util.Map<Integer, Set<Integer>> reachedOnce = new java.util.HashMap<>();

    /** A commit's parents never change, so going through the graph once a commit is enough. */
    private Set<Integer> reach(int commit) {
        Set<Integer> known = reachedOnce.get(commit);
        if (known == null) {
            known = new TreeSet<>();
            known.add(commit);
            for (int parent : all.get(commit).parents) {
                known.addAll(reach(parent));
            }
            reachedOnce.put(commit, known);
        }
        return known;
    }

    private List<Integer> baseList(int a, int b) {
        Set<Integer> both = new TreeSet<>(reach(a));
        both.retainAll(reach(b));
        List<Integer> result = new ArrayList<>();
        for (int c : both) {
            boolean byOther = false;
            for (int d : both) {
                byOther |= d != c && reach(d).contains(c);
            }
            if (!byOther) {
                result.add(c);
            }
        }
        return result;
    }

    /** How many merges of bases stand one on the other below two commits. */
    int depth(int a, int b) {
        List<Integer> bases = baseList(a, b);
        return bases.size() < 2 ? 0 : 1 + depth(bases.get(0), bases.get(1));
    }

    int presentBranch() {
        return present;
    }

    private TreeMap<Integer, List<Integer>> baseTree(int a, int b) {
        List<Integer> bases = baseList(a, b);
        if (bases.isEmpty()) {
            return new TreeMap<>();
        }
        if (bases.size() == 1) {
            return all.get(bases.get(0)).tree;
        }
        int first = bases.get(0);
        int second = bases.get(1);
        return mergeTrees(baseTree(first, second), all.get(first).tree, all.get(second).tree, false);
    }

    private boolean there(int commit) {
        return commit >= 0 && commit < all.size() && !all.get(commit).collected;
    }

    private Integer head() {
        return tips[present];
    }

    private TreeMap<Integer, List<Integer>> headTree() {
        return head() == null ? new TreeMap<>() : all.get(head()).tree;
    }

    private boolean branchThere(int b) {
        return tips[b] != null || b == present;
    }

    private int branchCount() {
        int count = 0;
        for (int b = 0; b < 6; b++) {
            count += branchThere(b) ? 1 : 0;
        }
        return count;
    }

    private void give(int b, int commit) {
        if (tips[b] == null || tips[b] != commit) {
            logs.get(b).add(commit);
        }
        tips[b] = commit;
    }

    private void takeTree(TreeMap<Integer, List<Integer>> tree) {
        working = new TreeMap<>(tree);
        index = new TreeMap<>(tree);
    }

    private void moveTo(int commit) {
        give(present, commit);
        takeTree(all.get(commit).tree);
    }

    private boolean clean() {
        return working.equals(index) && index.equals(headTree());
    }

    private int add(TreeMap<Integer, List<Integer>> tree, List<Integer> parents, int label) {
        all.add(new Commit(new TreeMap<>(tree), parents, label));
        return all.size() - 1;
    }

    // ---- tests of arguments

    private static void file(int file) {
        if (file < 0 || file > 5) {
            throw new IndexOutOfBoundsException();
        }
    }

    private static void none(boolean wrong) {
        if (wrong) {
            throw new NoSuchElementException();
        }
    }

    private static void argument(boolean wrong) {
        if (wrong) {
            throw new IllegalArgumentException();
        }
    }

    private static void state(boolean wrong) {
        if (wrong) {
            throw new IllegalStateException();
        }
    }

    private static void unsupported(boolean wrong) {
        if (wrong) {
            throw new UnsupportedOperationException();
        }
    }

    // ---- the face

    int make(int f) {
        file(f);
        state(working.containsKey(f));
        working.put(f, List.of());
        return working.size();
    }

    int insert(int f, int place, int line) {
        file(f);
        none(!working.containsKey(f));
        List<Integer> text = new ArrayList<>(working.get(f));
        argument(place < 0 || place > text.size() || line < 0 || line > 99);
        state(text.size() >= 40);
        text.add(place, line);
        working.put(f, text);
        return text.size();
    }

    int cut(int f, int place) {
        file(f);
        none(!working.containsKey(f) || place < 0 || place >= working.get(f).size());
        List<Integer> text = new ArrayList<>(working.get(f));
        int line = text.remove(place);
        working.put(f, text);
        return line;
    }

    int drop(int f) {
        file(f);
        none(!working.containsKey(f));
        return working.remove(f).size();
    }

    int rename(int f, int to) {
        file(f);
        file(to);
        none(!working.containsKey(f));
        state(working.containsKey(to));
        working.put(to, working.remove(f));
        return working.get(to).size();
    }

    private static boolean over(TreeMap<Integer, List<Integer>> from, TreeMap<Integer, List<Integer>> to, int f) {
        List<Integer> before = to.get(f);
        List<Integer> text = from.get(f);
        if (text == null) {
            to.remove(f);
        } else {
            to.put(f, text);
        }
        return before == null ? text != null : !before.equals(text);
    }

    boolean stage(int f) {
        file(f);
        return over(working, index, f);
    }

    boolean restore(int f) {
        file(f);
        return over(index, working, f);
    }

    private static char differs(TreeMap<Integer, List<Integer>> old, TreeMap<Integer, List<Integer>> now, int f) {
        if (!old.containsKey(f)) {
            return now.containsKey(f) ? 'n' : '-';
        }
        return !now.containsKey(f) ? 'g' : old.get(f).equals(now.get(f)) ? '-' : 'c';
    }

    char change(int f) {
        file(f);
        return differs(index, working, f);
    }

    char staged(int f) {
        file(f);
        return differs(headTree(), index, f);
    }

    int lines(int f) {
        file(f);
        none(!working.containsKey(f));
        return working.get(f).size();
    }

    int lineAt(int f, int place) {
        file(f);
        none(!working.containsKey(f) || place < 0 || place >= working.get(f).size());
        return working.get(f).get(place);
    }

    int commit(int label) {
        argument(label < 0);
        for (List<Integer> text : index.values()) {
            for (int line : text) {
                unsupported(line >= 100);
            }
        }
        state(index.equals(headTree()) && waiting != 'm');
        state(all.size() >= 60);
        List<Integer> parents = new ArrayList<>();
        if (head() != null) {
            parents.add(head());
        }
        if (waiting == 'm') {
            parents.add(waitingOther);
        }
        int made = add(index, parents, waiting == 'p' ? waitingLabel : label);
        give(present, made);
        waiting = '-';
        return made;
    }

    int linesOf(int commit, int f) {
        file(f);
        none(!there(commit));
        none(!all.get(commit).tree.containsKey(f));
        return all.get(commit).tree.get(f).size();
    }

    int lineOf(int commit, int f, int place) {
        int size = linesOf(commit, f);
        none(place < 0 || place >= size);
        return all.get(commit).tree.get(f).get(place);
    }

    int parent(int commit, int which) {
        none(!there(commit));
        none(which < 0 || which >= all.get(commit).parents.size());
        return all.get(commit).parents.get(which);
    }

    int label(int commit) {
        none(!there(commit));
        return all.get(commit).label;
    }

    boolean reaches(int commit, int other) {
        none(!there(commit) || !there(other));
        return reach(commit).contains(other);
    }

    int bases(int commit, int other) {
        none(!there(commit) || !there(other));
        return baseList(commit, other).size();
    }

    int matched(int commit, int other, int f) {
        file(f);
        none(!there(commit) || !there(other));
        List<Integer> a = all.get(commit).tree.get(f);
        List<Integer> b = all.get(other).tree.get(f);
        none(a == null || b == null);
        return match(a, b).size();
    }

    int movedTo(int commit, int other, int f) {
        file(f);
        none(!there(commit) || !there(other));
        Integer to = moves(all.get(commit).tree, all.get(other).tree).get(f);
        none(to == null);
        return to;
    }

    int branch(int b) {
        file(b);
        state(branchThere(b) || head() == null);
        logs.get(b).clear();
        give(b, head());
        return branchCount();
    }

    int switchTo(int b) {
        file(b);
        none(!branchThere(b));
        state(waiting != '-' || !clean());
        int before = present;
        present = b;
        takeTree(headTree());
        return before;
    }

    int unbranch(int b) {
        file(b);
        none(!branchThere(b));
        state(b == present);
        tips[b] = null;
        logs.get(b).clear();
        return branchCount();
    }

    int reset(int commit) {
        none(!there(commit));
        int before = head() == null ? -1 : head();
        moveTo(commit);
        waiting = '-';
        return before;
    }

    int headOf(int b) {
        file(b);
        none(tips[b] == null);
        return tips[b];
    }

    int logAt(int b, int place) {
        file(b);
        none(!branchThere(b));
        none(place < 0 || place >= logs.get(b).size());
        return logs.get(b).get(logs.get(b).size() - 1 - place);
    }

    char merge(int b, int label) {
        file(b);
        none(tips[b] == null);
        argument(label < 0);
        state(waiting != '-' || !clean() || all.size() >= 60);
        int other = tips[b];
        if (head() != null && reach(head()).contains(other)) {
            return 'u';
        }
        if (head() == null || reach(other).contains(head())) {
            moveTo(other);
            return 'f';
        }
        TreeMap<Integer, List<Integer>> base = baseTree(head(), other);
        TreeMap<Integer, List<Integer>> merged = mergeTrees(base, headTree(), all.get(other).tree, true);
        if (!found.isEmpty()) {
            wait('m', other, label, merged);
            return 'c';
        }
        moveTo(add(merged, List.of(head(), other), label));
        return 'm';
    }

    private void wait(char kind, int other, int label, TreeMap<Integer, List<Integer>> merged) {
        waiting = kind;
        waitingOther = other;
        waitingLabel = label;
        told = found;
        takeTree(merged);
    }

    private TreeMap<Integer, List<Integer>> before(int commit) {
        List<Integer> parents = all.get(commit).parents;
        return parents.isEmpty() ? new TreeMap<>() : all.get(parents.get(0)).tree;
    }

    private char apply(TreeMap<Integer, List<Integer>> base, TreeMap<Integer, List<Integer>> theirs, char kind,
            int label) {
        TreeMap<Integer, List<Integer>> merged = mergeTrees(base, headTree(), theirs, true);
        if (!found.isEmpty()) {
            wait(kind, -1, label, merged);
            return 'c';
        }
        if (merged.equals(headTree())) {
            return 'e';
        }
        moveTo(add(merged, List.of(head()), label));
        return 'm';
    }

    char pick(int commit) {
        none(!there(commit));
        state(waiting != '-' || !clean() || head() == null || all.size() >= 60);
        return apply(before(commit), all.get(commit).tree, 'p', all.get(commit).label);
    }

    char takeBack(int commit, int label) {
        none(!there(commit));
        argument(label < 0);
        state(waiting != '-' || !clean() || head() == null || all.size() >= 60);
        return apply(all.get(commit).tree, before(commit), 't', label);
    }

    char putOnto(int b) {
        file(b);
        none(tips[b] == null);
        state(waiting != '-' || !clean() || head() == null);
        int other = tips[b];
        if (reach(head()).contains(other)) {
            return 'u';
        }
        if (reach(other).contains(head())) {
            moveTo(other);
            return 'f';
        }
        List<TreeMap<Integer, List<Integer>>> trees = new ArrayList<>();
        List<Integer> labels = new ArrayList<>();
        TreeMap<Integer, List<Integer>> ours = all.get(other).tree;
        for (int c : reach(head())) {
            if (reach(other).contains(c) || all.get(c).parents.size() == 2) {
                continue;
            }
            TreeMap<Integer, List<Integer>> merged = mergeTrees(before(c), ours, all.get(c).tree, true);
            if (!found.isEmpty()) {
                return 'c';
            }
            if (!merged.equals(ours)) {
                trees.add(merged);
                labels.add(all.get(c).label);
                ours = merged;
            }
        }
        state(all.size() + trees.size() > 60);
        int last = other;
        for (int i = 0; i < trees.size(); i++) {
            last = add(trees.get(i), List.of(last), labels.get(i));
        }
        moveTo(last);
        return 'm';
    }

    char waits() {
        return waiting;
    }

    int giveUp() {
        state(waiting == '-');
        waiting = '-';
        takeTree(headTree());
        return told.size();
    }

    int conflicts() {
        return waiting == '-' ? 0 : told.size();
    }

    char kindOf(int conflict) {
        none(conflict < 0 || conflict >= conflicts());
        return told.get(conflict).kind();
    }

    int fileOf(int conflict) {
        none(conflict < 0 || conflict >= conflicts());
        return told.get(conflict).file();
    }

    int settle(int f, char way) {
        file(f);
        none(!working.containsKey(f));
        argument("otbn".indexOf(way) < 0);
        List<Integer> text = working.get(f);
        int start = text.indexOf(100);
        unsupported(start < 0);
        int middle = start + 1 + text.subList(start + 1, text.size()).indexOf(101);
        unsupported(middle <= start);
        int end = middle + 1 + text.subList(middle + 1, text.size()).indexOf(102);
        unsupported(end <= middle);
        List<Integer> ours = new ArrayList<>(text.subList(start + 1, middle));
        List<Integer> theirs = new ArrayList<>(text.subList(middle + 1, end));
        List<Integer> became = new ArrayList<>();
        if (way == 'o' || way == 'b') {
            became.addAll(ours);
        }
        if (way == 't' || way == 'b') {
            became.addAll(theirs);
        }
        memory.put(new Parts(ours, theirs), became);
        List<Integer> settled = new ArrayList<>(text.subList(0, start));
        settled.addAll(became);
        settled.addAll(text.subList(end + 1, text.size()));
        working.put(f, settled);
        return settled.size();
    }

    int remembered() {
        return memory.size();
    }

    private Spot back(Spot spot) {
        Commit now = all.get(spot.commit());
        for (int parent : now.parents) {
            TreeMap<Integer, List<Integer>> old = all.get(parent).tree;
            Integer source = old.containsKey(spot.file()) ? Integer.valueOf(spot.file()) : null;
            for (java.util.Map.Entry<Integer, Integer> move : moves(old, now.tree).entrySet()) {
                if (move.getValue() == spot.file()) {
                    source = move.getKey();
                }
            }
            if (source != null) {
                for (java.util.Map.Entry<Integer, Integer> pair
                        : match(old.get(source), now.tree.get(spot.file())).entrySet()) {
                    if (pair.getValue() == spot.place()) {
                        return new Spot(parent, source, pair.getKey());
                    }
                }
            }
        }
        return null;
    }

    private Spot due(int f, int place) {
        Spot spot = new Spot(head(), f, place);
        for (Spot next = back(spot); next != null; next = back(spot)) {
            spot = next;
        }
        return spot;
    }

    int blame(int f, int place) {
        file(f);
        none(head() == null);
        none(!headTree().containsKey(f) || place < 0 || place >= headTree().get(f).size());
        return due(f, place).commit();
    }

    int search(int good, int bad) {
        none(!there(good) || !there(bad));
        state(good == bad || !reach(bad).contains(good));
        candidates = new TreeSet<>(reach(bad));
        candidates.removeAll(reach(good));
        passed.clear();
        lastBad = bad;
        return candidates.size();
    }

    int next() {
        none(candidates == null);
        int best = -1;
        int most = -1;
        for (int c : candidates) {
            if (passed.contains(c) || c == lastBad) {
                continue;
            }
            Set<Integer> both = new TreeSet<>(candidates);
            both.retainAll(reach(c));
            int lesser = Math.min(both.size(), candidates.size() - both.size());
            if (lesser > most) {
                most = lesser;
                best = c;
            }
        }
        none(best < 0);
        return best;
    }

    int tell(int commit, char how) {
        none(candidates == null || !candidates.contains(commit));
        argument("gbs".indexOf(how) < 0);
        unsupported(commit == lastBad && how != 'b');
        if (how == 'g') {
            candidates.removeAll(reach(commit));
        } else if (how == 'b') {
            candidates.retainAll(reach(commit));
            lastBad = commit;
        } else {
            passed.add(commit);
        }
        return candidates.size();
    }

    int collect() {
        Set<Integer> held = new TreeSet<>();
        for (int b = 0; b < 6; b++) {
            if (tips[b] != null) {
                held.addAll(reach(tips[b]));
                List<Integer> log = logs.get(b);
                for (int i = Math.max(0, log.size() - 3); i < log.size(); i++) {
                    held.addAll(reach(log.get(i)));
                }
            }
        }
        if (waiting == 'm') {
            held.addAll(reach(waitingOther));
        }
        candidates = null;
        int count = 0;
        for (int c = 0; c < all.size(); c++) {
            if (!all.get(c).collected && !held.contains(c)) {
                all.get(c).collected = true;
                count++;
            }
        }
        return count;
    }

    int commits() {
        int count = 0;
        for (Commit commit : all) {
            count += commit.collected ? 0 : 1;
        }
        return count;
    }

    int texts() {
        Set<List<Integer>> different = new HashSet<>();
        for (Commit commit : all) {
            if (!commit.collected) {
                different.addAll(commit.tree.values());
            }
        }
        return different.size();
    }

    private final java.util.Map<Integer, Long> sumsOnce = new java.util.HashMap<>();
    private final java.util.Map<Integer, int[]> dueOnce = new java.util.HashMap<>();

    long sum(int commit) {
        none(!there(commit));
        Long known = sumsOnce.get(commit);
        if (known != null) {
            return known;
        }
        long sum = 7;
        sum = 31 * sum + all.get(commit).label;
        for (int f : all.get(commit).tree.keySet()) {
            sum = 31 * sum + 1000 + f;
            for (int line : all.get(commit).tree.get(f)) {
                sum = 31 * sum + line;
            }
        }
        for (int parent : all.get(commit).parents) {
            sum = 31 * sum + sum(parent);
        }
        sumsOnce.put(commit, sum);
        return sum;
    }

    float share(int commit) {
        none(!there(commit) || head() == null);
        int[] due = dueOnce.computeIfAbsent(head(), this::allDue);
        int lines = 0;
        for (int count : due) {
            lines += count;
        }
        if (lines == 0) {
            throw new ArithmeticException();
        }
        return (commit < due.length ? (float) due[commit] : 0f) / (float) lines;
    }

    /** How many lines of the head are due to each commit; as commits never change, once is enough. */
    private int[] allDue(int head) {
        int[] due = new int[head + 1];
        for (int f : headTree().keySet()) {
            for (int place = 0; place < headTree().get(f).size(); place++) {
                due[due(f, place).commit()]++;
            }
        }
        return due;
    }

    double meanParents() {
        int count = 0;
        int parents = 0;
        for (Commit commit : all) {
            if (!commit.collected) {
                count++;
                parents += commit.parents.size();
            }
        }
        if (count == 0) {
            throw new ArithmeticException();
        }
        return (double) parents / (double) count;
    }

    boolean isSound() {
        for (int c = 0; c < all.size(); c++) {
            for (int parent : all.get(c).parents) {
                if (there(c) && (!there(parent) || parent >= c)) {
                    return false;
                }
            }
        }
        for (int b = 0; b < 6; b++) {
            List<Integer> log = logs.get(b);
            for (int i = Math.max(0, log.size() - 3); i < log.size(); i++) {
                if (!there(log.get(i))) {
                    return false;
                }
            }
            if (tips[b] != null && !there(tips[b])) {
                return false;
            }
        }
        return true;
    }
}
