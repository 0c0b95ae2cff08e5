import java.util.ArrayList;
import java.util.List;
import java.util.NoSuchElementException;
import java.util.function.Supplier;

/** What the tests share: checks that are counted, and short ways to bring a store into a state. */
final class Bench {
    private static int passed;
    private static int failed;

    private Bench() {
    }

    /** The answer of a call must be the one that is due. */
    static void due(String what, Object got, Object want) {
        if (got.equals(want)) {
            passed++;
        } else {
            failed++;
            System.out.println(what + " answered " + got + ", due is " + want);
        }
    }

    /** The call must throw exactly this exception, by a throw of its own, and change nothing. */
    static void fails(String what, Class<? extends RuntimeException> kind, Patchwright x, Supplier<Object> call) {
        String before = look(x);
        String got;
        try {
            got = "answered " + call.get();
        } catch (RuntimeException e) {
            boolean machine = e.getMessage() != null && e.getMessage().contains("by zero");
            got = machine ? "the machine threw " + e : e.getClass().getName();
        }
        due(what + " (exception)", got, kind.getName());
        due(what + " (state after the exception)", look(x), before);
    }

    /** Ends a test class: tells the count and leaves with 1 if a check failed. */
    static void close(String name) {
        System.out.println(name + ": " + passed + " passed, " + failed + " failed");
        System.exit(failed == 0 ? 0 : 1);
    }

    // ---- states

    /** Gives a file of the working copy exactly these lines. */
    static void write(Patchwright x, int file, int... lines) {
        try {
            x.drop(file);
        } catch (NoSuchElementException e) {
            // it was not there
        }
        x.make(file);
        for (int i = 0; i < lines.length; i++) {
            x.insert(file, i, lines[i]);
        }
    }

    static void stageAll(Patchwright x) {
        for (int f = 0; f < 6; f++) {
            x.stage(f);
        }
    }

    /** Writes a file and commits everything. */
    static int save(Patchwright x, int label, int file, int... lines) {
        write(x, file, lines);
        return saveAll(x, label);
    }

    static int saveAll(Patchwright x, int label) {
        stageAll(x);
        return x.commit(label);
    }

    /** A store with commit 0, label 0: file 0 with these lines. */
    static Patchwright store(int... lines) {
        Patchwright x = new Patchwright();
        save(x, 0, 0, lines);
        return x;
    }

    /**
     * A store whose file 0 was changed on two branches: commit 0 the base, commit 1 theirs on branch 1,
     * commit 2 ours on branch 0, which is the present one.
     */
    static Patchwright fork(int[] base, int[] ours, int[] theirs) {
        Patchwright x = store(base);
        x.branch(1);
        x.switchTo(1);
        save(x, 1, 0, theirs);
        x.switchTo(0);
        save(x, 2, 0, ours);
        return x;
    }

    static int[] row(int... lines) {
        return lines;
    }

    static int[] count(int from, int many) {
        int[] lines = new int[many];
        for (int i = 0; i < many; i++) {
            lines[i] = from + i;
        }
        return lines;
    }

    static List<Integer> text(Patchwright x, int file) {
        List<Integer> text = new ArrayList<>();
        for (int i = 0; i < x.lines(file); i++) {
            text.add(x.lineAt(file, i));
        }
        return text;
    }

    static List<Integer> textOf(Patchwright x, int commit, int file) {
        List<Integer> text = new ArrayList<>();
        for (int i = 0; i < x.linesOf(commit, file); i++) {
            text.add(x.lineOf(commit, file, i));
        }
        return text;
    }

    /** The files of the working copy with their lines, as "0=[1, 2] 3=[]". */
    static String files(Patchwright x) {
        StringBuilder all = new StringBuilder();
        for (int f = 0; f < 6; f++) {
            try {
                List<Integer> text = text(x, f);
                all.append(all.length() == 0 ? "" : " ").append(f).append('=').append(text);
            } catch (RuntimeException e) {
                // not there
            }
        }
        return all.toString();
    }

    static String filesOf(Patchwright x, int commit) {
        StringBuilder all = new StringBuilder();
        for (int f = 0; f < 6; f++) {
            try {
                List<Integer> text = textOf(x, commit, f);
                all.append(all.length() == 0 ? "" : " ").append(f).append('=').append(text);
            } catch (RuntimeException e) {
                // not there
            }
        }
        return all.toString();
    }

    /** The conflicts of what waits, as "x0 p3". */
    static String conflicts(Patchwright x) {
        StringBuilder all = new StringBuilder();
        for (int i = 0; i < x.conflicts(); i++) {
            all.append(i == 0 ? "" : " ").append(x.kindOf(i)).append(x.fileOf(i));
        }
        return all.toString();
    }

    private static String told(Supplier<Object> call) {
        try {
            return String.valueOf(call.get());
        } catch (RuntimeException e) {
            return "-";
        }
    }

    /** All that a store shows of itself. */
    static String look(Patchwright x) {
        StringBuilder all = new StringBuilder(files(x));
        all.append(" waits ").append(x.waits()).append(' ').append(conflicts(x));
        all.append(" remembered ").append(x.remembered()).append(" next ").append(told(() -> x.next()));
        for (int f = 0; f < 6; f++) {
            int file = f;
            all.append(' ').append(x.change(f)).append(x.staged(f)).append(told(() -> x.blame(file, 0)));
        }
        for (int b = 0; b < 6; b++) {
            int branch = b;
            all.append(" branch ").append(told(() -> x.headOf(branch)));
            for (int p = 0; p < 8; p++) {
                int place = p;
                all.append(' ').append(told(() -> x.logAt(branch, place)));
            }
        }
        all.append(" commits ").append(x.commits()).append(" texts ").append(x.texts());
        for (int c = 0; c < 60; c++) {
            int commit = c;
            all.append(' ').append(told(() -> x.sum(commit)));
        }
        return all.toString();
    }
}
