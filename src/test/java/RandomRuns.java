import java.util.ArrayList;
import java.util.List;
import java.util.Random;
import java.util.function.Supplier;

/** Runs of calls from fixed seeds, each answer of the class measured against that of Model. */
final class RandomRuns {
    private static final int CALLS = 512;
    private static int wrong;

    private final Random random;
    private final int alphabet;
    private final int files;
    private final Patchwright real = new Patchwright();
    private final Model model = new Model();
    private final List<String> told = new ArrayList<>();
    private final long seed;
    private int calls;
    private boolean broken;
    static final java.util.Map<String, Integer> seen = new java.util.TreeMap<>();

    private RandomRuns(long seed) {
        this.seed = seed;
        random = new Random(seed);
        alphabet = new int[] {2, 3, 5, 12, 100}[random.nextInt(5)];
        files = 1 + random.nextInt(6);
    }

    public static void main(String[] args) {
        int runs = args.length > 0 ? Integer.parseInt(args[0]) : 600;
        long first = args.length > 1 ? Long.parseLong(args[1]) : 1;
        run(runs, first);
        if (args.length > 2) {
            System.out.println(seen);
        }
        System.out.println("RandomRuns: " + runs + " runs, " + wrong + " wrong");
        System.exit(wrong == 0 ? 0 : 1);
    }

    /** Goes through some runs and returns the number of wrong ones. */
    static int run(int runs, long first) {
        for (long seed = first; seed < first + runs && wrong < 5; seed++) {
            new RandomRuns(seed).run();
        }
        return wrong;
    }

    private void run() {
        int style = random.nextInt(9);
        while (calls < CALLS && !broken) {
            if (style == 4) {
                moving();
            } else if (style == 5) {
                searching();
            } else if (style == 6) {
                longTexts();
            } else if (style == 7) {
                growing();
            } else if (style == 8) {
                manyWays();
            } else if (style == 0) {
                anyCall();
            } else if (style == 1) {
                if (random.nextInt(4) == 0) {
                    anyCall();
                } else {
                    work();
                }
            } else if (style == 2) {
                work();
                if (random.nextInt(6) == 0) {
                    anyCall();
                }
            } else {
                crisscross();
            }
        }
        lookAtAll();
    }

    private static String outcome(Supplier<Object> call) {
        try {
            return String.valueOf(call.get());
        } catch (RuntimeException e) {
            String message = e.getMessage();
            String kind = e.getClass().getName();
            return "throws " + kind + (message != null && message.contains("/ by zero") ? " by the machine" : "");
        }
    }

    private String call(String name, Supplier<Object> one, Supplier<Object> other) {
        if (broken) {
            return "broken";
        }
        calls++;
        String got = outcome(one);
        String due = outcome(other);
        told.add(name + " -> " + got);
        String key = name.substring(0, name.indexOf('('));
        boolean word = got.startsWith("throws") || got.length() == 1 && !Character.isDigit(got.charAt(0));
        seen.merge(key + (word ? " " + got : " value"), 1, Integer::sum);
        if (!got.equals(due)) {
            broken = true;
            wrong++;
            System.out.println("seed " + seed + ", call " + calls + ": " + name + " answered " + got + ", due is " + due);
            for (String line : told.subList(Math.max(0, told.size() - 60), told.size())) {
                System.out.println("   " + line);
            }
        }
        return due;
    }

    // ---- arguments: mostly such that something happens, now and then wrong ones

    private int file() {
        return random.nextInt(60) == 0 ? random.nextInt(9) - 2 : random.nextInt(files);
    }

    private int branchNumber() {
        return random.nextInt(60) == 0 ? random.nextInt(9) - 2 : random.nextInt(4);
    }

    private int commitNumber() {
        int made = Math.max(1, made());
        return random.nextInt(30) == 0 ? random.nextInt(64) - 2 : random.nextInt(made);
    }

    private int made() {
        int most = 0;
        for (int c = 0; c < 60; c++) {
            int at = c;
            most = outcome(() -> model.label(at)).startsWith("throws") ? most : c + 1;
        }
        return most;
    }

    private int place(int f) {
        String size = outcome(() -> model.lines(f));
        int most = size.startsWith("throws") ? 1 : Integer.parseInt(size);
        return random.nextInt(40) == 0 ? random.nextInt(most + 6) - 2 : random.nextInt(most + 1);
    }

    private int labelNumber() {
        return random.nextInt(40) == 0 ? -1 - random.nextInt(3) : random.nextInt(1000);
    }

    private char letter(String letters) {
        return random.nextInt(30) == 0 ? (char) random.nextInt(256) : letters.charAt(random.nextInt(letters.length()));
    }

    private int line() {
        return random.nextInt(80) == 0 ? random.nextInt(110) - 5 : random.nextInt(alphabet);
    }

    // ---- calls

    private void anyCall() {
        int f = file();
        int g = random.nextInt(20) == 0 ? file() : random.nextInt(6);
        int c = commitNumber();
        int d = commitNumber();
        int b = branchNumber();
        int p = place(f);
        int l = labelNumber();
        switch (random.nextInt(52)) {
            case 0, 1 -> call("make(" + f + ")", () -> real.make(f), () -> model.make(f));
            case 2, 3, 4, 5 -> insert(f, p, line());
            case 6 -> call("cut(" + f + "," + p + ")", () -> real.cut(f, p), () -> model.cut(f, p));
            case 7 -> drop(f);
            case 8 -> rename(f, g);
            case 9, 10, 11 -> stage(f);
            case 12 -> call("restore(" + f + ")", () -> real.restore(f), () -> model.restore(f));
            case 13 -> call("change(" + f + ")", () -> real.change(f), () -> model.change(f));
            case 14 -> call("staged(" + f + ")", () -> real.staged(f), () -> model.staged(f));
            case 15 -> call("lines(" + f + ")", () -> real.lines(f), () -> model.lines(f));
            case 16 -> call("lineAt(" + f + "," + p + ")", () -> real.lineAt(f, p), () -> model.lineAt(f, p));
            case 17, 18 -> commit(l);
            case 19 -> call("linesOf(" + c + "," + f + ")", () -> real.linesOf(c, f), () -> model.linesOf(c, f));
            case 20 -> call("lineOf(" + c + "," + f + "," + p + ")", () -> real.lineOf(c, f, p),
                    () -> model.lineOf(c, f, p));
            case 21 -> {
                int which = random.nextInt(10) == 0 ? random.nextInt(5) - 2 : random.nextInt(2);
                call("parent(" + c + "," + which + ")", () -> real.parent(c, which), () -> model.parent(c, which));
            }
            case 22 -> call("label(" + c + ")", () -> real.label(c), () -> model.label(c));
            case 23 -> call("reaches(" + c + "," + d + ")", () -> real.reaches(c, d), () -> model.reaches(c, d));
            case 24 -> call("bases(" + c + "," + d + ")", () -> real.bases(c, d), () -> model.bases(c, d));
            case 25 -> call("matched(" + c + "," + d + "," + f + ")", () -> real.matched(c, d, f),
                    () -> model.matched(c, d, f));
            case 26 -> call("movedTo(" + c + "," + d + "," + f + ")", () -> real.movedTo(c, d, f),
                    () -> model.movedTo(c, d, f));
            case 27 -> branch(b);
            case 28, 29 -> switchTo(b);
            case 30 -> call("unbranch(" + b + ")", () -> real.unbranch(b), () -> model.unbranch(b));
            case 31 -> reset(c);
            case 32 -> call("headOf(" + b + ")", () -> real.headOf(b), () -> model.headOf(b));
            case 33 -> {
                int at = random.nextInt(6) - 1;
                call("logAt(" + b + "," + at + ")", () -> real.logAt(b, at), () -> model.logAt(b, at));
            }
            case 34, 35 -> merge(b, l);
            case 36 -> pick(c);
            case 37 -> takeBack(c, l);
            case 38 -> putOnto(b);
            case 39 -> giveUp();
            case 40 -> lookAtWaiting();
            case 41, 42 -> settle(f, letter("otbn"));
            case 43 -> call("remembered()", () -> real.remembered(), () -> model.remembered());
            case 44 -> call("blame(" + f + "," + p + ")", () -> real.blame(f, p), () -> model.blame(f, p));
            case 45 -> call("search(" + c + "," + d + ")", () -> real.search(c, d), () -> model.search(c, d));
            case 46 -> call("next()", () -> real.next(), () -> model.next());
            case 47 -> {
                char how = letter("gbs");
                call("tell(" + c + "," + (int) how + ")", () -> real.tell(c, how), () -> model.tell(c, how));
            }
            case 48 -> call("collect()", () -> real.collect(), () -> model.collect());
            case 49 -> {
                call("commits()", () -> real.commits(), () -> model.commits());
                call("texts()", () -> real.texts(), () -> model.texts());
                call("meanParents()", () -> real.meanParents(), () -> model.meanParents());
            }
            case 50 -> {
                call("sum(" + c + ")", () -> real.sum(c), () -> model.sum(c));
                call("share(" + c + ")", () -> real.share(c), () -> model.share(c));
            }
            default -> call("isSound()", () -> real.isSound(), () -> model.isSound());
        }
    }

    private void insert(int f, int p, int line) {
        call("insert(" + f + "," + p + "," + line + ")", () -> real.insert(f, p, line), () -> model.insert(f, p, line));
    }

    private void drop(int f) {
        call("drop(" + f + ")", () -> real.drop(f), () -> model.drop(f));
    }

    private void rename(int f, int g) {
        call("rename(" + f + "," + g + ")", () -> real.rename(f, g), () -> model.rename(f, g));
    }

    private void stage(int f) {
        call("stage(" + f + ")", () -> real.stage(f), () -> model.stage(f));
    }

    private void commit(int l) {
        call("commit(" + l + ")", () -> real.commit(l), () -> model.commit(l));
    }

    private void branch(int b) {
        call("branch(" + b + ")", () -> real.branch(b), () -> model.branch(b));
    }

    private void switchTo(int b) {
        call("switchTo(" + b + ")", () -> real.switchTo(b), () -> model.switchTo(b));
    }

    private void reset(int c) {
        call("reset(" + c + ")", () -> real.reset(c), () -> model.reset(c));
    }

    private void merge(int b, int l) {
        String bases = outcome(() -> model.bases(model.headOf(model.presentBranch()), model.headOf(b)));
        if (!bases.startsWith("throws") && Integer.parseInt(bases) > 1 && model.waits() == '-') {
            seen.merge("merge with bases: " + bases + ", deep " + model.depth(model.headOf(model.presentBranch()),
                    model.headOf(b)), 1, Integer::sum);
        }
        call("merge(" + b + "," + l + ")", () -> real.merge(b, l), () -> model.merge(b, l));
    }

    private void pick(int c) {
        call("pick(" + c + ")", () -> real.pick(c), () -> model.pick(c));
    }

    private void takeBack(int c, int l) {
        call("takeBack(" + c + "," + l + ")", () -> real.takeBack(c, l), () -> model.takeBack(c, l));
    }

    private void putOnto(int b) {
        call("putOnto(" + b + ")", () -> real.putOnto(b), () -> model.putOnto(b));
    }

    private void giveUp() {
        call("giveUp()", () -> real.giveUp(), () -> model.giveUp());
    }

    private void settle(int f, char way) {
        call("settle(" + f + "," + (int) way + ")", () -> real.settle(f, way), () -> model.settle(f, way));
    }

    private void lookAtWaiting() {
        call("waits()", () -> real.waits(), () -> model.waits());
        call("conflicts()", () -> real.conflicts(), () -> model.conflicts());
        int at = random.nextInt(5) - 1;
        call("kindOf(" + at + ")", () -> real.kindOf(at), () -> model.kindOf(at));
        call("fileOf(" + at + ")", () -> real.fileOf(at), () -> model.fileOf(at));
    }

    /** A few edits that are staged and committed. */
    private void change() {
        for (int edits = 1 + random.nextInt(3); edits > 0; edits--) {
            int f = random.nextInt(files);
            int kind = random.nextInt(12);
            if (outcome(() -> model.lines(f)).startsWith("throws")) {
                call("make(" + f + ")", () -> real.make(f), () -> model.make(f));
                for (int i = random.nextInt(7); i > 0; i--) {
                    insert(f, 0, random.nextInt(alphabet));
                }
                stage(f);
            } else if (kind < 6) {
                insert(f, place(f), line());
                stage(f);
            } else if (kind < 9) {
                int p = place(f);
                call("cut(" + f + "," + p + ")", () -> real.cut(f, p), () -> model.cut(f, p));
                stage(f);
            } else if (kind < 10) {
                drop(f);
                stage(f);
            } else {
                int g = random.nextInt(6);
                rename(f, g);
                if (random.nextInt(4) == 0) {
                    call("restore(" + f + ")", () -> real.restore(f), () -> model.restore(f));
                }
                stage(f);
                stage(g);
            }
        }
        commit(random.nextInt(50));
    }

    private void work() {
        if (model.waits() != '-') {
            goOnWaiting();
            return;
        }
        int b = random.nextInt(4);
        switch (random.nextInt(12)) {
            case 0, 1, 2, 3 -> change();
            case 4 -> branch(b);
            case 5, 6 -> switchTo(b);
            case 7, 8 -> merge(b, random.nextInt(50));
            case 9 -> pick(commitNumber());
            case 10 -> {
                if (random.nextInt(2) == 0) {
                    takeBack(commitNumber(), random.nextInt(50));
                } else {
                    putOnto(b);
                }
            }
            default -> {
                if (random.nextInt(3) == 0) {
                    reset(commitNumber());
                } else {
                    anyCall();
                }
            }
        }
    }

    private void goOnWaiting() {
        goOnWaiting("otbn");
    }

    private void goOnWaiting(String ways) {
        if (model.waits() == '-') {
            return;
        }
        lookAtWaiting();
        if (random.nextInt(5) == 0) {
            giveUp();
            return;
        }
        for (int round = 0; round < 12; round++) {
            int f = random.nextInt(6);
            settle(f, letter(ways));
        }
        for (int f = 0; f < 6; f++) {
            stage(f);
        }
        if (random.nextInt(8) == 0) {
            anyCall();
        }
        commit(random.nextInt(50));
        if (model.waits() != '-') {
            giveUp();
        }
    }

    /** Two branches that merge each other again and again, so that merges have two bases. */
    private void crisscross() {
        if (model.waits() != '-') {
            goOnWaiting();
            return;
        }
        if (outcome(() -> model.headOf(0)).startsWith("throws")) {
            change();
            branch(1);
            branch(2);
            return;
        }
        int a = random.nextInt(2);
        switchTo(a);
        change();
        switchTo(1 - a);
        change();
        int left = headNumber(a);
        merge(a, 1);
        if (model.waits() != '-') {
            goOnWaiting();
        }
        int right = headNumber(1 - a);
        switchTo(a);
        if (right >= 0 && random.nextInt(3) > 0) {
            int first = Integer.parseInt(parentOr(right, 0, "-1"));
            if (first >= 0 && left >= 0) {
                // the other way round: the same two commits, with the other one as the first parent
                branch(3);
                switchTo(3);
                reset(first);
                switchTo(a);
                merge(3, 2);
                if (model.waits() != '-') {
                    goOnWaiting();
                }
                call("unbranch(3)", () -> real.unbranch(3), () -> model.unbranch(3));
            }
        }
        if (random.nextInt(4) == 0) {
            anyCall();
        }
    }

    /** Files are renamed on two sides, a little changed at times, and merged. */
    private void moving() {
        if (model.waits() != '-') {
            goOnWaiting();
            return;
        }
        if (outcome(() -> model.headOf(0)).startsWith("throws")) {
            for (int f = 0; f < 3; f++) {
                fill(f, 2 + random.nextInt(6));
            }
            commit(1);
            branch(1);
            return;
        }
        for (int side = 0; side < 2; side++) {
            switchTo(side);
            for (int i = 1 + random.nextInt(2); i > 0; i--) {
                int f = random.nextInt(6);
                int g = random.nextInt(6);
                rename(f, g);
                if (random.nextInt(3) == 0) {
                    insert(g, 0, random.nextInt(alphabet));
                }
                if (random.nextInt(6) == 0) {
                    fill(f, random.nextInt(5));
                }
                if (random.nextInt(12) == 0) {
                    drop(g);
                }
                stage(f);
                stage(g);
            }
            commit(2);
        }
        int c = commitNumber();
        int d = commitNumber();
        int f = random.nextInt(6);
        call("movedTo(" + c + "," + d + "," + f + ")", () -> real.movedTo(c, d, f), () -> model.movedTo(c, d, f));
        call("blame(" + f + ",0)", () -> real.blame(f, 0), () -> model.blame(f, 0));
        if (random.nextInt(5) == 0) {
            putOnto(0);
        } else {
            merge(0, 3);
        }
        goOnWaiting();
        if (random.nextInt(3) == 0) {
            switchTo(0);
            merge(1, 4);
            goOnWaiting();
        }
    }

    private void fill(int f, int lines) {
        call("make(" + f + ")", () -> real.make(f), () -> model.make(f));
        for (int i = 0; i < lines; i++) {
            int p = place(f);
            insert(f, p, random.nextInt(alphabet));
        }
        stage(f);
    }

    /** A graph is made, then it is searched again and again. */
    private void searching() {
        for (int i = 0; i < 14; i++) {
            work();
        }
        for (int i = 0; i < 6; i++) {
            int c = commitNumber();
            int d = commitNumber();
            call("search(" + c + "," + d + ")", () -> real.search(c, d), () -> model.search(c, d));
            for (int step = 0; step < 6; step++) {
                String next = call("next()", () -> real.next(), () -> model.next());
                int tried = next.startsWith("throws") || random.nextInt(4) == 0 ? commitNumber()
                        : Integer.parseInt(next);
                char how = letter("gbs");
                call("tell(" + tried + "," + (int) how + ")", () -> real.tell(tried, how),
                        () -> model.tell(tried, how));
            }
        }
        if (random.nextInt(3) == 0) {
            call("collect()", () -> real.collect(), () -> model.collect());
            call("next()", () -> real.next(), () -> model.next());
        }
    }

    /** Files up to the most lines that may be inserted, and merges that go beyond. */
    private void longTexts() {
        if (model.waits() != '-') {
            goOnWaiting();
            return;
        }
        if (outcome(() -> model.headOf(0)).startsWith("throws")) {
            fill(0, 20 + random.nextInt(25));
            commit(0);
            branch(1);
            return;
        }
        int side = random.nextInt(2);
        switchTo(side);
        for (int i = 0; i < 12; i++) {
            int p = place(0);
            if (random.nextInt(3) > 0) {
                insert(0, p, random.nextInt(alphabet));
            } else {
                call("cut(0," + p + ")", () -> real.cut(0, p), () -> model.cut(0, p));
            }
        }
        stage(0);
        if (random.nextInt(5) == 0) {
            rename(0, 1);
            call("restore(0)", () -> real.restore(0), () -> model.restore(0));
            call("cut(0,0)", () -> real.cut(0, 0), () -> model.cut(0, 0));
            stage(0);
            stage(1);
        }
        commit(1);
        if (random.nextInt(3) == 0) {
            merge(1 - side, 3);
            goOnWaiting();
        } else if (random.nextInt(3) == 0) {
            pick(commitNumber());
            goOnWaiting();
        }
        anyCall();
    }

    /** Texts are put behind one another until they are dropped again, and cut here and there. */
    private void growing() {
        if (model.waits() != '-') {
            goOnWaiting("bbbbot");
            return;
        }
        if (made() >= 60) {
            calls = CALLS;
            return;
        }
        if (outcome(() -> model.headOf(0)).startsWith("throws")) {
            fill(0, 10 + random.nextInt(20));
            fill(1, 10 + random.nextInt(20));
            commit(1);
            rename(0, 2);
            stage(0);
            stage(2);
            commit(2);
            branch(1);
            reset(0);
            return;
        }
        boolean both = !outcome(() -> model.lines(0)).startsWith("throws")
                && !outcome(() -> model.lines(2)).startsWith("throws");
        if (both && random.nextInt(2) == 0) {
            pick(1);
            return;
        }
        int f = random.nextInt(3);
        int g = random.nextInt(3);
        String size = outcome(() -> model.lines(f));
        int kind = random.nextInt(10);
        if (size.startsWith("throws") && kind < 3 || !size.startsWith("throws") && Integer.parseInt(size) > 900) {
            drop(f);
            stage(f);
            fill(f, 5 + random.nextInt(9));
            commit(3);
        } else if (kind < 4) {
            if (f == g) {
                return;
            }
            drop(g);
            rename(f, g);
            call("restore(" + f + ")", () -> real.restore(f), () -> model.restore(f));
            cutSome(g, 1 + random.nextInt(4));
            stage(g);
            commit(4);
        } else if (kind < 5) {
            cutSome(f, 1 + random.nextInt(6));
            stage(f);
            commit(5);
        } else if (kind < 7) {
            pick(random.nextInt(3) == 0 ? commitNumber() : 1);
        } else if (kind < 8) {
            takeBack(commitNumber(), 6);
        } else if (kind < 9) {
            switchTo(random.nextInt(2));
            merge(random.nextInt(2), 7);
        } else {
            int c = commitNumber();
            int d = commitNumber();
            call("matched(" + c + "," + d + "," + f + ")", () -> real.matched(c, d, f), () -> model.matched(c, d, f));
            int p = random.nextInt(600);
            call("blame(" + f + "," + p + ")", () -> real.blame(f, p), () -> model.blame(f, p));
            call("share(" + c + ")", () -> real.share(c), () -> model.share(c));
        }
    }

    /**
     * Both branches hand one text on, one of them behind a line of its own, and both stand in what is merged: so lines
     * of the head go to the same lines of older commits by many ways.
     */
    private void manyWays() {
        if (outcome(() -> model.headOf(0)).startsWith("throws")) {
            fill(2, 4 + random.nextInt(8));
            commit(1);
            return;
        }
        int from = outcome(() -> model.lines(2)).startsWith("throws") ? 3 : 2;
        int to = random.nextInt(4) == 0 ? from : 5 - from;
        String size = outcome(() -> model.lines(from));
        if (made() > 54 || size.startsWith("throws") || Integer.parseInt(size) > 300) {
            shares();
            calls = CALLS;
            return;
        }
        branch(1);
        switchTo(1);
        moveAndCut(from, to, random.nextInt(4));
        call("make(" + from + ")", () -> real.make(from), () -> model.make(from));
        insert(from, 0, random.nextInt(100));
        stage(from);
        commit(random.nextInt(50));
        switchTo(0);
        moveAndCut(from, to, 1 + random.nextInt(2));
        merge(1, 3);
        for (int round = 0; round < 6 && model.waits() != '-'; round++) {
            settle(round % 3 == 2 ? from : to, letter("obbb"));
        }
        stage(from);
        stage(to);
        commit(random.nextInt(50));
        if (model.waits() != '-') {
            giveUp();
        }
        call("unbranch(1)", () -> real.unbranch(1), () -> model.unbranch(1));
        if (random.nextInt(4) == 0) {
            shares();
        }
    }

    private void moveAndCut(int from, int to, int cuts) {
        if (from != to) {
            rename(from, to);
        }
        cutSome(to, cuts);
        stage(from);
        stage(to);
        commit(random.nextInt(50));
    }

    private void shares() {
        for (int c = 0; c < made(); c++) {
            int commit = c;
            call("share(" + c + ")", () -> real.share(commit), () -> model.share(commit));
        }
    }

    private void cutSome(int f, int many) {
        for (int i = 0; i < many; i++) {
            int p = place(f);
            call("cut(" + f + "," + p + ")", () -> real.cut(f, p), () -> model.cut(f, p));
        }
    }

    private int headNumber(int b) {
        String number = outcome(() -> model.headOf(b));
        return number.startsWith("throws") ? -1 : Integer.parseInt(number);
    }

    private String parentOr(int c, int which, String otherwise) {
        String number = outcome(() -> model.parent(c, which));
        return number.startsWith("throws") ? otherwise : number;
    }

    private void lookAtAll() {
        for (int b = 0; b < 6; b++) {
            int at = b;
            call("headOf(" + b + ")", () -> real.headOf(at), () -> model.headOf(at));
            for (int place = 0; place < 5; place++) {
                int entry = place;
                call("logAt(" + b + "," + place + ")", () -> real.logAt(at, entry), () -> model.logAt(at, entry));
            }
        }
        for (int f = 0; f < 6; f++) {
            int file = f;
            call("change(" + f + ")", () -> real.change(file), () -> model.change(file));
            call("staged(" + f + ")", () -> real.staged(file), () -> model.staged(file));
            call("lines(" + f + ")", () -> real.lines(file), () -> model.lines(file));
            for (int p = 0; p < 90; p++) {
                int place = p;
                call("lineAt(" + f + "," + p + ")", () -> real.lineAt(file, place), () -> model.lineAt(file, place));
                call("blame(" + f + "," + p + ")", () -> real.blame(file, place), () -> model.blame(file, place));
            }
        }
        for (int c = 0; c < 60; c++) {
            int commit = c;
            call("sum(" + c + ")", () -> real.sum(commit), () -> model.sum(commit));
            call("parent(" + c + ", 1)", () -> real.parent(commit, 1), () -> model.parent(commit, 1));
        }
        lookAtWaiting();
        call("texts()", () -> real.texts(), () -> model.texts());
        call("remembered()", () -> real.remembered(), () -> model.remembered());
        call("isSound()", () -> real.isSound(), () -> model.isSound());
        call("collect()", () -> real.collect(), () -> model.collect());
        call("commits()", () -> real.commits(), () -> model.commits());
        call("meanParents()", () -> real.meanParents(), () -> model.meanParents());
    }
}
