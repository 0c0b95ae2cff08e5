import java.lang.reflect.Method;
import java.net.URL;
import java.net.URLClassLoader;
import java.nio.file.Files;
import java.nio.file.Path;
import java.util.ArrayList;
import java.util.List;
import javax.tools.JavaCompiler;
import javax.tools.StandardJavaFileManager;
import javax.tools.ToolProvider;

/**
 * What the class does with long texts alone, done with short ones: the class is compiled with lower bounds for its ways
 * of matching and following, and goes through random runs.
 */
final class WaysTest {
    private static final int RUNS = 300;

    public static void main(String[] args) throws Exception {
        way("by steps", "FEW_CELLS = 1L << 12", "FEW_CELLS = 0L", "SOME_CELLS = 1L << 24", "SOME_CELLS = 0L");
        way("by bits in groups of three rows", "GROUP = 64", "GROUP = 3", "MOST_LEVEL = 4", "MOST_LEVEL = 40",
                "FEW_CELLS = 1L << 12", "FEW_CELLS = 0L", "FEW_RUNS = 512", "FEW_RUNS = 2");
        way("by blocks, told as rows", "FEW_CELLS = 1L << 12", "FEW_CELLS = 0L", "SOME_CELLS = 1L << 24",
                "SOME_CELLS = 0L", "FEW_PASSED = 64", "FEW_PASSED = -1");
        way("by blocks of three lines, told as bits", "FEW_CELLS = 1L << 12", "FEW_CELLS = 0L", "SOME_CELLS = 1L << 24",
                "SOME_CELLS = 0L", "FEW_PASSED = 64", "FEW_PASSED = -1", "LEAF = 62", "LEAF = 3", "MANY_RUNS = 1 << 12",
                "MANY_RUNS = 0", "FEW_BITS = 192", "FEW_BITS = 2", "FEW_UNITS = 48", "FEW_UNITS = 0", "FEW_ROWS = 16", "FEW_ROWS = -1");
        way("by steps or blocks, told as rows or bits", "FEW_CELLS = 1L << 12", "FEW_CELLS = 0L",
                "SOME_CELLS = 1L << 24", "SOME_CELLS = 0L", "FEW_PASSED = 64", "FEW_PASSED = 2", "LEAF = 62", "LEAF = 1",
                "MANY_RUNS = 1 << 12", "MANY_RUNS = 3", "FEW_BITS = 192", "FEW_BITS = 5", "FEW_UNITS = 48", "FEW_UNITS = 3", "FEW_ROWS = 16", "FEW_ROWS = 1",
                "MOST_WOVEN = 1 << 17", "MOST_WOVEN = 1", "MOST_WAYS = 1 << 18", "MOST_WAYS = 1", "MOST_BLOCKS = 1 << 18",
                "MOST_BLOCKS = 1", " SLOTS = 1 << 14", " SLOTS = 2");
        Bench.close("WaysTest");
    }

    private static void way(String name, String... bounds) throws Exception {
        String source = Files.readString(Path.of("src/main/java/Patchwright.java"));
        for (int i = 0; i < bounds.length; i += 2) {
            Bench.due(name + ": there is " + bounds[i], source.contains(bounds[i] + ";"), true);
            source = source.replace(bounds[i] + ";", bounds[i + 1] + ";");
        }
        Path place = Files.createTempDirectory("ways");
        Path changed = place.resolve("Patchwright.java");
        Files.writeString(changed, source);
        List<Path> files = new ArrayList<>(List.of(changed));
        for (String test : List.of("Model", "RandomRuns", "Bench")) {
            files.add(Path.of("src/test/java", test + ".java"));
        }
        JavaCompiler compiler = ToolProvider.getSystemJavaCompiler();
        StandardJavaFileManager manager = compiler.getStandardFileManager(null, null, null);
        boolean compiled = compiler.getTask(null, manager, null, List.of("-proc:none", "-d", place.toString()), null,
                manager.getJavaFileObjects(files.toArray(new Path[0]))).call();
        Bench.due(name + ": compiled", compiled, true);
        try (URLClassLoader loader = new URLClassLoader(new URL[] {place.toUri().toURL()},
                ClassLoader.getPlatformClassLoader())) {
            Method run = loader.loadClass("RandomRuns").getDeclaredMethod("run", int.class, long.class);
            run.setAccessible(true);
            Bench.due(name + ": wrong runs", run.invoke(null, RUNS, 1L), 0);
        }
        try (java.util.stream.Stream<Path> all = Files.walk(place)) {
            for (Path file : all.sorted(java.util.Comparator.reverseOrder()).toList()) {
                Files.delete(file);
            }
        }
    }
}
