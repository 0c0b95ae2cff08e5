import java.lang.reflect.Constructor;
import java.lang.reflect.Field;
import java.lang.reflect.Method;
import java.lang.reflect.Modifier;
import java.nio.file.Files;
import java.nio.file.Path;
import java.util.ArrayList;
import java.util.HashSet;
import java.util.List;
import java.util.Set;
import java.util.TreeSet;
import java.util.regex.Matcher;
import java.util.regex.Pattern;

/** The public face is that of the document's code block, and nothing else of the class is to be seen. */
final class FaceTest {
    private static final Pattern METHOD = Pattern.compile(
            "    public (\\w+) (\\w+)\\((.*?)\\)(?: throws (.*?))?;");

    public static void main(String[] args) throws Exception {
        Set<String> due = new TreeSet<>();
        Set<String> names = new HashSet<>();
        String doc = Files.readString(Path.of(args.length > 0 ? args[0] : "../shared/DOC.md"));
        Matcher found = METHOD.matcher(doc);
        while (found.find()) {
            List<String> types = new ArrayList<>();
            for (String parameter : found.group(3).isEmpty() ? new String[0] : found.group(3).split(", ")) {
                types.add(parameter.split(" ")[0]);
            }
            Set<String> thrown = new TreeSet<>();
            if (found.group(4) != null) {
                thrown.addAll(List.of(found.group(4).split(", ")));
            }
            names.add(found.group(2));
            due.add(found.group(1) + " " + found.group(2) + types + " " + thrown);
        }
        Bench.due("face: methods in the document", due.size(), 48);
        Set<String> got = new TreeSet<>();
        for (Method method : Patchwright.class.getDeclaredMethods()) {
            boolean open = Modifier.isPublic(method.getModifiers());
            if (open) {
                got.add(shape(method));
            }
            Bench.due("face: open or private: " + method, open != Modifier.isPrivate(method.getModifiers()), true);
            Bench.due("face: a name of its own: " + method, open || !names.contains(method.getName()), true);
        }
        Bench.due("face: methods", got.toString(), due.toString());
        for (Field field : Patchwright.class.getDeclaredFields()) {
            Bench.due("face: private field " + field, Modifier.isPrivate(field.getModifiers()), true);
        }
        for (Class<?> inner : Patchwright.class.getDeclaredClasses()) {
            Bench.due("face: hidden class " + inner, Modifier.isPublic(inner.getModifiers()), false);
            for (Method method : inner.getDeclaredMethods()) {
                Bench.due("face: a name of its own: " + method, names.contains(method.getName()), false);
            }
        }
        Constructor<?>[] made = Patchwright.class.getDeclaredConstructors();
        Bench.due("face: constructors", made.length, 1);
        Bench.due("face: constructor", made[0].toString(), "public Patchwright()");
        Bench.due("face: final", Modifier.isFinal(Patchwright.class.getModifiers()), true);
        Bench.close("FaceTest");
    }

    private static String shape(Method method) {
        List<String> types = new ArrayList<>();
        for (Class<?> type : method.getParameterTypes()) {
            types.add(type.getSimpleName());
        }
        Set<String> thrown = new TreeSet<>();
        for (Class<?> type : method.getExceptionTypes()) {
            thrown.add(type.getSimpleName());
        }
        return method.getReturnType().getSimpleName() + " " + method.getName() + types + " " + thrown;
    }
}
