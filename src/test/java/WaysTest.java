import java.lang.reflect.Method;
import java.net.URL;
import java.net.URLClassLoader;
import java.nio.file.Files;
import java.nio.file.Path;
import java.util.ArrayList;
import java.util.List;
import javax.tools.JavaCompiler;
import javax.tools.StandardJavaFileManager;
import javax.tools.ToolProvider;

/**
 * What the class does with long texts alone, done with short ones: the class is compiled with other bounds for its ways
 * of matching, merging and following, and goes through random runs; and long texts, done in all these ways.
 */
final class WaysTest {
    private static final int RUNS = 300;
    private static final int LONG_RUNS = 24;
    private static final int ROUNDS = 9;
    private static final String[] BY_BITS = {"SOME_CELLS = 1L << 24", "SOME_CELLS = 1L << 40", "SOME_ROWS = 1L << 13",
        "SOME_ROWS = 1L << 20"};
    private static final String[] BY_STEPS = {"FEW_CELLS = 1L << 12", "FEW_CELLS = 0L", "SOME_CELLS = 1L << 24",
        "SOME_CELLS = 0L"};
    private static final String[] BY_GROUPS = {"GROUP = 1 << 14", "GROUP = 3", "TILE = 1 << 10", "TILE = 2",
        "ROWS_READ = 1 << 12", "ROWS_READ = 7", "FEW_CELLS = 1L << 12", "FEW_CELLS = 0L", "FEW_RUNS = 1 << 10",
        "FEW_RUNS = 2"};
    private static final String[] BY_MANY_BITS = {"PIECE = 1 << 27", "PIECE = 150", "GRID = 8", "GRID = 2",
        "GROUP = 1 << 14", "GROUP = 5", "TILE = 1 << 10", "TILE = 1", "ROWS_READ = 1 << 12", "ROWS_READ = 5", "FEW_CELLS = 1L << 12",
        "FEW_CELLS = 0L", "SOME_CELLS = 1L << 24", "SOME_CELLS = 0L", "FEW_PASSED = 64",
        "FEW_PASSED = -1", "MANY_PASSED = 512", "MANY_PASSED = -1",
        "GREEDY_LINES = 1 << 16", "GREEDY_LINES = 2", "SOME_WORK = 1L << 24", "SOME_WORK = 0L",
        "MOST_WORK = 1L << 36", "MOST_WORK = 0L",
        "FIRST_IN_SECOND = 1", "FIRST_IN_SECOND = -1", "SECOND_IN_FIRST = 2", "SECOND_IN_FIRST = -1"};
    private static final String[] BY_BLOCKS = {"FEW_CELLS = 1L << 12", "FEW_CELLS = 0L", "SOME_CELLS = 1L << 24",
        "SOME_CELLS = 0L", "FEW_PASSED = 64", "FEW_PASSED = -1"};
    private static final String[] BY_FEW_BLOCKS = {"FEW_CELLS = 1L << 12", "FEW_CELLS = 0L", "SOME_CELLS = 1L << 24",
        "SOME_CELLS = 0L", "FEW_PASSED = 64", "FEW_PASSED = -1", "MOST_EDGES = 1 << 20", "MOST_EDGES = 1 << 7"};
    private static final String[] BY_BLOCKS_AS_BITS = {"FEW_CELLS = 1L << 12", "FEW_CELLS = 0L",
        "SOME_CELLS = 1L << 24", "SOME_CELLS = 0L", "FEW_PASSED = 64", "FEW_PASSED = -1", "LEAF = 62", "LEAF = 3",
        "SOME_RUNS = 1 << 10", "SOME_RUNS = 0", "FEW_BITS = 1024", "FEW_BITS = 2", "FEW_UNITS = 256", "FEW_UNITS = 0",
        "FEW_ROWS = 16", "FEW_ROWS = -1", "SOME_BOUNDS = 1 << 13", "SOME_BOUNDS = 0"};
    private static final String[] BY_WHAT_IS_LEFT = {"FEW_CELLS = 1L << 12", "FEW_CELLS = 0L", "SOME_CELLS = 1L << 24",
        "SOME_CELLS = 0L", "FEW_PASSED = 64", "FEW_PASSED = -1", "SOME_WORK = 1L << 24", "SOME_WORK = -1L",
        "MOST_WORK = 1L << 36", "MOST_WORK = 0L", "GREEDY_TURNS = 1 << 6", "GREEDY_TURNS = 3",
        "GREEDY_LINES = 1 << 16", "GREEDY_LINES = 7"};
    private static final String[] BY_ALL = {"FEW_CELLS = 1L << 12", "FEW_CELLS = 0L", "SOME_CELLS = 1L << 24",
        "SOME_CELLS = 0L", "FEW_PASSED = 64", "FEW_PASSED = 2", "LEAF = 62", "LEAF = 1", "SOME_RUNS = 1 << 10",
        "SOME_RUNS = 3", "FEW_BITS = 1024", "FEW_BITS = 5", "FEW_UNITS = 256", "FEW_UNITS = 3", "FEW_ROWS = 16",
        "FEW_ROWS = 1", "MOST_WOVEN = 1 << 17", "MOST_WOVEN = 1", "MOST_WAYS = 1 << 18", "MOST_WAYS = 1",
        "MOST_BLOCKS = 1 << 20", "MOST_BLOCKS = 1", " SLOTS = 1 << 14", " SLOTS = 2",
        "USUAL_NUMBERS = 1 << 13", "USUAL_NUMBERS = 1 << 4", "SOME_BOUNDS = 1 << 13", "SOME_BOUNDS = 5",
        "MANY_BOUNDS = 1 << 16", "MANY_BOUNDS = 9"};
    private static final String[] BY_MANY_STEPS = {"FEW_CELLS = 1L << 12", "FEW_CELLS = 0L", "SOME_CELLS = 1L << 24",
        "SOME_CELLS = 0L", "FEW_PASSED = 64", "FEW_PASSED = -1", "SOME_WORK = 1L << 24", "SOME_WORK = -1L",
        "MOST_WORK = 1L << 36", "MOST_WORK = 0L", "SOME_RUNS = 1 << 10", "SOME_RUNS = 2", "MANY_PASSED = 512",
        "MANY_PASSED = 5", "FIRST_IN_SECOND = 1", "FIRST_IN_SECOND = -1", "SECOND_IN_FIRST = 2",
        "SECOND_IN_FIRST = -1", "GROUP = 1 << 14", "GROUP = 40", "GRID = 8", "GRID = 3"};
    private static final String[] BY_MORE_BLOCKS = {"FEW_CELLS = 1L << 12", "FEW_CELLS = 0L",
        "SOME_CELLS = 1L << 24", "SOME_CELLS = 0L", "FEW_PASSED = 64", "FEW_PASSED = -1", "MANY_PASSED = 512",
        "MANY_PASSED = -1", "FIRST_IN_SECOND = 1", "FIRST_IN_SECOND = -1", "SECOND_IN_FIRST = 2",
        "SECOND_IN_FIRST = -1", "LEAF = 62", "LEAF = 4", "FEW_WORK = 1L << 18", "FEW_WORK = 1L << 8",
        "SOME_WORK = 1L << 24", "SOME_WORK = 30L", "MOST_EDGES = 1 << 20", "MOST_EDGES = 1 << 8",
        "USUAL_NUMBERS = 1 << 13", "USUAL_NUMBERS = 1 << 6", "USUAL = 1 << 10", "USUAL = 1 << 4"};

    public static void main(String[] args) throws Exception {
        way("by steps", BY_STEPS);
        way("by bits in groups of three rows", BY_GROUPS);
        way("by bits alone, told as bits", BY_MANY_BITS);
        way("by blocks, told as rows", BY_BLOCKS);
        way("by blocks of three lines, told as bits", BY_BLOCKS_AS_BITS);
        way("by steps or blocks, told as rows or bits", BY_ALL);
        way("by what is left where blocks take too long", BY_WHAT_IS_LEFT);
        way("by many steps or bits", BY_MANY_STEPS);
        way("by more blocks, some in vain, or bits", BY_MORE_BLOCKS);
        String due = told("long texts by bits", BY_BITS);
        Bench.due("long texts by bits, told", due.length() > 1000, true);
        Bench.due("long texts as ever", LongRuns.tell(LONG_RUNS, ROUNDS).equals(due), true);
        Bench.due("long texts by blocks", told("long texts by blocks", BY_BLOCKS).equals(due), true);
        Bench.due("long texts by bits alone", told("long texts by bits alone", BY_MANY_BITS).equals(due), true);
        Bench.due("long texts by few blocks", told("long texts by few blocks", BY_FEW_BLOCKS).equals(due), true);
        Bench.due("long texts told as bits", told("long texts told as bits", BY_BLOCKS_AS_BITS).equals(due), true);
        Bench.due("long texts by what is left",
                told("long texts by what is left", BY_WHAT_IS_LEFT).equals(due), true);
        Bench.due("long texts by many steps", told("long texts by many steps", BY_MANY_STEPS).equals(due), true);
        Bench.due("long texts by more blocks", told("long texts by more blocks", BY_MORE_BLOCKS).equals(due), true);
        Bench.due("long texts by all ways", told("long texts by all ways", BY_ALL).equals(due), true);
        Bench.close("WaysTest");
    }

    private static void way(String name, String... bounds) throws Exception {
        Bench.due(name + ": wrong runs", called(name, "RandomRuns", "run", new Class<?>[] {int.class, long.class},
                new Object[] {RUNS, 1L}, bounds), 0);
    }

    private static String told(String name, String... bounds) throws Exception {
        return (String) called(name, "LongRuns", "tell", new Class<?>[] {int.class, int.class},
                new Object[] {LONG_RUNS, ROUNDS}, bounds);
    }

    /** What a method answers that uses the class with other bounds. */
    private static Object called(String name, String test, String method, Class<?>[] kinds, Object[] arguments,
            String... bounds) throws Exception {
        String source = Files.readString(Path.of("src/main/java/Patchwright.java"));
        for (int i = 0; i < bounds.length; i += 2) {
            Bench.due(name + ": there is " + bounds[i], source.contains(bounds[i] + ";"), true);
            source = source.replace(bounds[i] + ";", bounds[i + 1] + ";");
        }
        Path place = Files.createTempDirectory("ways");
        Path changed = place.resolve("Patchwright.java");
        Files.writeString(changed, source);
        List<Path> files = new ArrayList<>(List.of(changed));
        for (String needed : List.of("Model", "RandomRuns", "Bench", "LongRuns")) {
            files.add(Path.of("src/test/java", needed + ".java"));
        }
        JavaCompiler compiler = ToolProvider.getSystemJavaCompiler();
        StandardJavaFileManager manager = compiler.getStandardFileManager(null, null, null);
        boolean compiled = compiler.getTask(null, manager, null, List.of("-proc:none", "-d", place.toString()), null,
                manager.getJavaFileObjects(files.toArray(new Path[0]))).call();
        Bench.due(name + ": compiled", compiled, true);
        try (URLClassLoader loader = new URLClassLoader(new URL[] {place.toUri().toURL()},
                ClassLoader.getPlatformClassLoader())) {
            Method called = loader.loadClass(test).getDeclaredMethod(method, kinds);
            called.setAccessible(true);
            return called.invoke(null, arguments);
        } finally {
            try (java.util.stream.Stream<Path> all = Files.walk(place)) {
                for (Path file : all.sorted(java.util.Comparator.reverseOrder()).toList()) {
                    Files.delete(file);
                }
            }
        }
    }
}
