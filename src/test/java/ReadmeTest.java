import java.io.IOException;
import java.io.StringWriter;
import java.lang.management.ManagementFactory;
import java.lang.reflect.Array;
import java.lang.reflect.Field;
import java.lang.reflect.Modifier;
import java.net.URL;
import java.net.URLClassLoader;
import java.nio.file.Files;
import java.nio.file.Path;
import java.util.ArrayDeque;
import java.util.ArrayList;
import java.util.Collections;
import java.util.Deque;
import java.util.IdentityHashMap;
import java.util.List;
import java.util.Set;
import java.util.TreeSet;
import java.util.regex.Matcher;
import java.util.regex.Pattern;
import java.util.stream.Stream;
import javax.tools.JavaCompiler;
import javax.tools.ToolProvider;

/** That what README.md says of the class and of its tests is so. */
public final class ReadmeTest {
    private static final Pattern ANSWER = Pattern.compile("(\\s*)(desk\\..*);\\s*// => (\\S+)(.*)");

    private final String readme;
    private final List<String> calls = new ArrayList<>();
    private final List<Long> due = new ArrayList<>();

    private ReadmeTest(String text) {
        readme = text;
    }

    public static void main(String[] args) throws Exception {
        ReadmeTest test = new ReadmeTest(Files.readString(Path.of("README.md")));
        test.exampleAnswers();
        test.roomIsAsSaid();
        noCallMakesAnObject();
        oneFileWithoutPackageAndImports();
        test.testsAreAsSaid();
        test.commandRunsAllTests();
        Check.end();
    }

    private void exampleAnswers() throws Exception {
        Path place = Files.createTempDirectory("readme");
        try {
            List<?> answers = run(example(), place);
            Check.due("the example has answers", answers.size() > 30, true);
            for (int i = 0; i < answers.size(); i++) {
                Object[] answer = (Object[]) answers.get(i);
                int line = (Integer) answer[0];
                Check.due("README: " + calls.get(line), number(answer[1]), due.get(line));
            }
        } finally {
            deleteAll(place);
        }
    }

    private static long number(Object answer) {
        return answer instanceof Boolean yes ? (yes ? 1 : 0) : ((Number) answer).longValue();
    }

    /** The example as a class whose method returns each answer with the number of its line. */
    private String example() {
        Matcher code = Pattern.compile("(?s)```java\n(.*?)```").matcher(readme);
        Check.due("an example in README.md", code.find(), true);
        StringBuilder source = new StringBuilder("public final class Example {\n")
            .append("public static java.util.List<Object[]> answers() {\n")
            .append("java.util.List<Object[]> all = new java.util.ArrayList<>();\n");
        for (String line : code.group(1).split("\n")) {
            Matcher answer = ANSWER.matcher(line);
            if (answer.matches()) {
                source.append("all.add(new Object[] {").append(calls.size()).append(", ").append(answer.group(2)).append("});\n");
                calls.add(answer.group(2));
                due.add(told(answer.group(3)));
            } else {
                Check.due("a call without an answer in README.md: " + line, line.trim().startsWith("desk."), false);
                source.append(line).append('\n');
            }
        }
        Check.due("another example in README.md", code.find(), false);
        return source.append("return all;\n}\n}\n").toString();
    }

    private static long told(String value) {
        if (value.equals("true") || value.equals("false")) {
            return value.equals("true") ? 1 : 0;
        }
        return value.startsWith("0x") ? Long.parseUnsignedLong(value.substring(2), 16) : Long.parseLong(value);
    }

    private static List<?> run(String source, Path place) throws Exception {
        Path file = place.resolve("Example.java");
        Files.writeString(file, source);
        JavaCompiler compiler = ToolProvider.getSystemJavaCompiler();
        StringWriter told = new StringWriter();
        boolean compiled = compiler.getTask(told, null, null,
            List.of("-cp", System.getProperty("java.class.path"), "-d", place.toString()), null,
            compiler.getStandardFileManager(null, null, null).getJavaFileObjects(file)).call();
        Check.due("the example compiles " + told, compiled, true);
        if (!compiled) {
            return List.of();
        }
        try (URLClassLoader loader = new URLClassLoader(new URL[] {place.toUri().toURL()}, ReadmeTest.class.getClassLoader())) {
            return (List<?>) loader.loadClass("Example").getMethod("answers").invoke(null);
        }
    }

    private static void deleteAll(Path place) throws IOException {
        try (Stream<Path> files = Files.list(place)) {
            for (Path file : files.toList()) {
                Files.delete(file);
            }
        }
        Files.delete(place);
    }

    /** Counts a desk's objects and arrays, and their fields and elements. */
    private void roomIsAsSaid() throws IllegalAccessException {
        Set<Object> found = Collections.newSetFromMap(new IdentityHashMap<>());
        Deque<Object> open = new ArrayDeque<>();
        open.add(new WireDesk());
        long slots = 0;
        while (!open.isEmpty()) {
            Object object = open.remove();
            if (found.add(object)) {
                slots += object.getClass().isArray() ? elements(object, open) : fields(object, open);
            }
        }
        Matcher said = Pattern.compile("([\\d,]+)\\s+objects\\s+and\\s+arrays\\s+with\\s+([\\d,]+)\\s+fields").matcher(readme);
        Check.due("README says how much a desk is", said.find(), true);
        Check.due("objects and arrays", found.size(), Long.parseLong(said.group(1).replace(",", "")));
        Check.due("fields and elements", slots, Long.parseLong(said.group(2).replace(",", "")));
    }

    private static long elements(Object array, Deque<Object> open) {
        int count = Array.getLength(array);
        for (int i = 0; i < count && !array.getClass().getComponentType().isPrimitive(); i++) {
            open.add(Array.get(array, i));
        }
        return count;
    }

    private static long fields(Object object, Deque<Object> open) throws IllegalAccessException {
        int count = 0;
        for (Field field : object.getClass().getDeclaredFields()) {
            if (!Modifier.isStatic(field.getModifiers())) {
                count++;
                field.setAccessible(true);
                if (!field.getType().isPrimitive()) {
                    open.add(field.get(object));
                }
            }
        }
        return count;
    }

    /** The machine may make something of its own meanwhile, so the least of some turns counts. */
    private static void noCallMakesAnObject() {
        com.sun.management.ThreadMXBean counter = (com.sun.management.ThreadMXBean) ManagementFactory.getThreadMXBean();
        long least = Long.MAX_VALUE;
        for (int turn = 0; turn < 20; turn++) {
            WireDesk x = new WireDesk();
            long before = counter.getCurrentThreadAllocatedBytes();
            everyCall(x);
            least = Math.min(least, counter.getCurrentThreadAllocatedBytes() - before);
        }
        Check.due("bytes of the objects that calls made", least, 0);
    }

    private static long everyCall(WireDesk x) {
        long sum = 0;
        for (int turn = 0; turn < 4; turn++) {
            x.low(1, 4);
            for (int i = 0; i < 9; i++) {
                x.put(turn, 8);
            }
            x.low(2, 4);
            x.compact(2);
            x.low(1, 4);
            x.put(0, 6);
            x.low(1, 4);
            x.put(0, 6);
            x.low(1, 9);
            sum += turn < 3 ? x.read(true) : x.read(false);
            sum += x.place() + x.byteOf(3) + x.head(1) + x.look(1, 0) + x.input(0, 0, 0) + x.output(0, 0, 0) + x.name(-1, 0)
                + x.name(-3, 0) + (x.isDoubtful() ? 1 : 0);
        }
        return sum;
    }

    private static void oneFileWithoutPackageAndImports() throws IOException {
        Check.due("files of the class", filesUnder("src/main").size(), 1);
        String source = Files.readString(Path.of("src/main/java/WireDesk.java"));
        Check.due("package or import", Pattern.compile("(?m)^\\s*(package|import)\\b").matcher(source).find(), false);
    }

    private static List<Path> filesUnder(String place) throws IOException {
        try (Stream<Path> files = Files.walk(Path.of(place))) {
            return files.filter(Files::isRegularFile).toList();
        }
    }

    /** The tables have a line for each test that there is, and for no other. */
    private void testsAreAsSaid() throws IOException {
        Set<String> said = new TreeSet<>();
        Matcher line = Pattern.compile("(?m)^\\| `(\\w+)` \\|").matcher(readme);
        while (line.find()) {
            Check.due("README tells " + line.group(1) + " once", said.add(line.group(1)), true);
        }
        Set<String> there = new TreeSet<>();
        for (Path file : filesUnder("src/test")) {
            String name = file.getFileName().toString();
            if (name.endsWith("Test.java")) {
                there.add(name.substring(0, name.length() - ".java".length()));
            }
        }
        Check.due("README tells " + said + ", there are " + there, said.equals(there), true);
    }

    /** The command runs what is named so and lies there: so each program among the tests must be, and lie, so. */
    private void commandRunsAllTests() throws IOException {
        Matcher command = Pattern.compile("(?s)## How to run the tests\\s+```\n(\\S+)\n```").matcher(readme);
        Check.due("README names the command", command.find(), true);
        Path script = Path.of(command.group(1));
        Check.due("it can be run", Files.isExecutable(script), true);
        String text = Files.readString(script);
        Check.due("it runs the project's tests", text.contains("for file in src/test/java/*Test.java; do"), true);
        Check.due("it runs the shared tests", text.contains("for file in ../shared/tests/*.java; do"), true);
        for (Path file : filesUnder("src/test")) {
            boolean program = Files.readString(file).contains("public static void main(");
            boolean run = file.getParent().equals(Path.of("src/test/java")) && file.toString().endsWith("Test.java");
            Check.due(file + " is run", run, program);
        }
    }
}
