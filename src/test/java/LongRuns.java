import java.util.ArrayList;
import java.util.List;
import java.util.Random;
import java.util.function.Supplier;

/**
 * Runs of calls from fixed seeds, with texts of some thousand lines that merging has made; all answers are told, so that
 * classes that match such texts in different ways can be compared (WaysTest does).
 */
final class LongRuns {
    private static final int CALLS = 460;

    private final Random random;
    private final Patchwright x = new Patchwright();
    private final StringBuilder told = new StringBuilder();
    private final List<Integer> commits = new ArrayList<>();
    private int calls;
    private int last;

    private LongRuns(long seed) {
        random = new Random(seed);
    }

    /** What some runs told; a text is doubled so many times at most. */
    static String tell(int runs, int rounds) {
        StringBuilder all = new StringBuilder();
        for (long seed = 1; seed <= runs; seed++) {
            LongRuns run = new LongRuns(seed);
            run.go(rounds);
            all.append("run ").append(seed).append('\n').append(run.told);
        }
        return all.toString();
    }

    private Object answer(Supplier<Object> call) {
        calls++;
        try {
            return call.get();
        } catch (RuntimeException thrown) {
            return "throws." + thrown.getClass().getSimpleName();
        }
    }

    private Object ask(String name, Supplier<Object> call) {
        Object answer = answer(call);
        told.append(name).append(" -> ").append(answer).append('\n');
        return answer;
    }

    private void save(int... files) {
        for (int file : files) {
            answer(() -> x.stage(file));
        }
        Object made = answer(() -> x.commit(3));
        if (made instanceof Integer commit) {
            last = commit;
            commits.add(commit);
        }
    }

    /** File 2 gets lines, and file 1 gets them without the first one. */
    private void begin(int[] lines) {
        answer(() -> x.make(2));
        for (int i = 0; i < lines.length; i++) {
            int place = i;
            answer(() -> x.insert(2, place, lines[place]));
        }
        copyToOne();
    }

    private void copyToOne() {
        answer(() -> x.stage(2));
        answer(() -> x.rename(2, 1));
        answer(() -> x.restore(2));
        answer(() -> x.cut(1, 0));
    }

    /** File 2 becomes file 1 and behind it file 2; file 1 becomes the new file 2 without the first line. */
    private int grow(int times) {
        for (int k = 0; k < times; k++) {
            answer(() -> x.pick(1));
            answer(() -> x.settle(2, 'b'));
            copyToOne();
            save(1);
        }
        return last;
    }

    private int[] lines() {
        int count = 9 + random.nextInt(12);
        int alphabet = new int[] {1, 2, 2, 3, 20}[random.nextInt(5)];
        int first = random.nextInt(2);
        int[] lines = new int[count];
        for (int i = 0; i < count; i++) {
            lines[i] = random.nextBoolean() && i > 1 ? lines[i - 2] : first + random.nextInt(alphabet);
        }
        return lines;
    }

    private void go(int rounds) {
        answer(() -> x.make(1));
        answer(() -> x.insert(1, 0, 99));
        save(1);
        answer(() -> x.rename(1, 2));
        save(1, 2);
        answer(() -> x.reset(0));
        answer(() -> x.drop(1));
        int[] one = lines();
        begin(one);
        save(1, 2);
        int first = grow(1 + random.nextInt(rounds));
        answer(() -> x.rename(2, 0));
        answer(() -> x.drop(1));
        int[] other = random.nextBoolean() ? lines() : one.clone();
        other[random.nextInt(other.length)] = random.nextInt(3);
        begin(other);
        save(0, 1, 2);
        int second = grow(1 + random.nextInt(rounds));
        ask("matched", () -> x.matched(first, second, 2));
        answer(() -> x.reset(first));
        answer(() -> x.branch(1));
        answer(() -> x.reset(second));
        while (calls < CALLS) {
            anything();
        }
        ask("texts", x::texts);
        ask("remembered", x::remembered);
    }

    private void anything() {
        int what = random.nextInt(13);
        int commit = commits.get(random.nextInt(commits.size()));
        int other = commits.get(random.nextInt(commits.size()));
        int file = random.nextInt(3);
        int place = random.nextInt(300);
        if (what == 0) {
            ask("pick " + commit, () -> x.pick(commit));
        } else if (what == 1) {
            ask("takeBack " + commit, () -> x.takeBack(commit, 4));
        } else if (what == 2) {
            merge();
        } else if (what == 3) {
            ask("share " + commit, () -> x.share(commit));
        } else if (what == 4) {
            ask("blame", () -> x.blame(file, place));
        } else if (what < 8) {
            settle("otbbn".charAt(random.nextInt(5)));
        } else if (what == 8) {
            ask("cut", () -> x.cut(file, place));
            save(file);
        } else if (what == 9) {
            int to = random.nextInt(6);
            ask("rename", () -> x.rename(file, to));
            save(file, to);
        } else if (what == 10) {
            ask("reset", () -> x.reset(commit));
        } else if (what == 11) {
            ask("matched " + commit + " " + other, () -> x.matched(commit, other, file));
            ask("moved", () -> x.movedTo(commit, other, file));
        } else {
            ask("switchTo", () -> x.switchTo(random.nextInt(2)));
            ask("putOnto", () -> x.putOnto(1));
        }
        tellState();
    }

    private void merge() {
        Object how = ask("merge", () -> x.merge(1, 5));
        if (how.equals('u') || how.equals('m')) {
            answer(() -> x.switchTo(1));
            ask("merge back", () -> x.merge(0, 6));
            answer(() -> x.switchTo(0));
        }
    }

    private void settle(char way) {
        for (int f = 0; f < 6; f++) {
            int file = f;
            for (int k = 0; k < 12 && !answer(() -> x.settle(file, way)).toString().startsWith("throws"); k++) {
                told.append(way);
            }
        }
        save(0, 1, 2, 3, 4, 5);
        if (random.nextInt(4) == 0) {
            ask("giveUp", x::giveUp);
        }
    }

    private void tellState() {
        for (int file = 0; file < 6; file++) {
            try {
                int size = x.lines(file);
                long sum = size;
                int step = Math.max(1, size / 1009);
                for (int place = 0; place < size; place += step) {
                    sum = sum * 31 + x.lineAt(file, place);
                }
                told.append(' ').append(sum);
            } catch (RuntimeException thrown) {
                told.append(" -");
            }
        }
        told.append(' ').append(x.waits()).append(x.isSound());
        for (int k = 0; k < x.conflicts(); k++) {
            told.append(x.kindOf(k)).append(x.fileOf(k));
        }
        told.append('\n');
    }
}
