import java.lang.management.ManagementFactory;
import java.lang.reflect.Array;
import java.lang.reflect.Field;
import java.lang.reflect.Modifier;
import java.net.URL;
import java.net.URLClassLoader;
import java.nio.file.Files;
import java.nio.file.Path;
import java.util.ArrayDeque;
import java.util.ArrayList;
import java.util.Comparator;
import java.util.Deque;
import java.util.IdentityHashMap;
import java.util.List;
import java.util.Map;
import java.util.TreeSet;
import java.util.regex.Matcher;
import java.util.regex.Pattern;
import java.util.stream.Stream;
import javax.tools.ToolProvider;

/** What README.md says of the class, of the tests and of .ci/run is true of them. */
public final class ReadmeTest {
    private static int wrong = 0;
    private static int asked = 0;

    private static void holds(String what, boolean held) {
        asked++;
        if (!held) {
            wrong++;
            System.out.println("ReadmeTest: " + what);
        }
    }

    public static void main(String[] args) throws Exception {
        Path root = Path.of(args[0]);
        String readme = Files.readString(root.resolve("README.md"));
        example(blocks(readme, "java"));
        madeAtOnce(readme);
        holds("a call makes something", leastMade() == 0);
        files(root, readme);
        tests(root, readme);
        System.out.println("ReadmeTest: " + asked + " asked, " + wrong + " wrong");
        if (wrong != 0) {
            System.exit(1);
        }
    }

    private static List<String> blocks(String readme, String kind) {
        List<String> all = new ArrayList<>();
        Matcher m = Pattern.compile("(?s)```" + kind + "\n(.*?)```").matcher(readme);
        while (m.find()) {
            all.add(m.group(1));
        }
        return all;
    }

    // The example: a block with a method is put into a class, a block of calls into a method of it.

    private static void example(List<String> blocks) throws Exception {
        StringBuilder methods = new StringBuilder();
        StringBuilder calls = new StringBuilder();
        for (String block : blocks) {
            (block.startsWith("static") ? methods : calls).append(block);
        }
        Matcher told = Pattern.compile("(?m)^x\\.(.*\\));( +// (-?\\d+))?.*$").matcher(calls);
        StringBuilder checked = new StringBuilder();
        while (told.find()) {
            String call = told.group(1);
            holds("no answer is told of " + call, told.group(3) != null);
            told.appendReplacement(checked, Matcher.quoteReplacement(
                    "got.add(new String[] {\"" + call + "\", \"\" + x." + call + ", \"" + told.group(3) + "\"});"));
        }
        told.appendTail(checked);
        Path dir = Files.createTempDirectory("readme");
        try {
            for (String[] row : answers(dir, methods.toString(), checked.toString())) {
                holds(row[0] + " answered " + row[1] + ", README.md tells " + row[2], row[1].equals(row[2]));
            }
        } finally {
            remove(dir);
        }
    }

    @SuppressWarnings("unchecked")
    private static List<String[]> answers(Path dir, String methods, String calls) throws Exception {
        Path file = dir.resolve("Example.java");
        Files.writeString(file, "public final class Example {\n" + methods
                + "public static java.util.List<String[]> run() {\n"
                + "java.util.List<String[]> got = new java.util.ArrayList<>();\n" + calls + "return got;\n}\n}\n");
        int failed = ToolProvider.getSystemJavaCompiler().run(null, null, null, "-cp",
                System.getProperty("java.class.path"), "-d", dir.toString(), file.toString());
        holds("the example does not compile", failed == 0);
        if (failed != 0) {
            return List.of();
        }
        try (URLClassLoader loader = new URLClassLoader(new URL[] {dir.toUri().toURL()})) {
            return (List<String[]>) loader.loadClass("Example").getMethod("run").invoke(null);
        }
    }

    private static void remove(Path dir) throws Exception {
        try (Stream<Path> all = Files.walk(dir)) {
            for (Path path : all.sorted(Comparator.reverseOrder()).toList()) {
                Files.delete(path);
            }
        }
    }

    // What an object makes.

    private static void madeAtOnce(String readme) throws Exception {
        Map<Object, Boolean> seen = new IdentityHashMap<>();
        Deque<Object> open = new ArrayDeque<>();
        int parts = 0;
        open.add(new EbbWreck());
        while (!open.isEmpty()) {
            Object one = open.remove();
            if (seen.put(one, true) == null) {
                parts += one.getClass().isArray() ? elements(one, open) : fields(one, open);
            }
        }
        String told = seen.size() + " objects and arrays, " + parts + " fields and elements";
        holds("an object is " + told, readme.replace('\n', ' ').contains("(" + told + ")"));
    }

    private static int elements(Object array, Deque<Object> open) {
        int length = Array.getLength(array);
        for (int i = 0; i < length && !array.getClass().getComponentType().isPrimitive(); i++) {
            open.add(Array.get(array, i));
        }
        return length;
    }

    private static int fields(Object one, Deque<Object> open) throws Exception {
        int count = 0;
        for (Field field : one.getClass().getDeclaredFields()) {
            if (!Modifier.isStatic(field.getModifiers())) {
                count++;
                field.setAccessible(true);
                if (!field.getType().isPrimitive() && field.get(one) != null) {
                    open.add(field.get(one));
                }
            }
        }
        return count;
    }

    /** Bytes that a round of all calls makes; the least of several, as the machine itself may make some at first. */
    private static long leastMade() {
        com.sun.management.ThreadMXBean meter =
                (com.sun.management.ThreadMXBean) ManagementFactory.getThreadMXBean();
        EbbWreck x = new EbbWreck();
        String text = "shore cells 5 flood 2 slack 1 ebb 2 odds 30; current 1 flood 1 ebb back 1; beach 0; beach 4;"
                + "current 2 flood 1 ebb back 1; current 3 flood 1 ebb back 1; thing worth 80 at 2 from 0;"
                + "thing worth 45 at 1 from 3; rule 4 to 4 on flood to 1; rule 0 to 4 on flood ebb to 2;"
                + "sitter at 4; sitter at 4;";
        int[] fed = new int[(text.length() + 19) / 20 * 5];
        for (int i = 0; i < fed.length * 4; i++) {
            fed[i / 4] = fed[i / 4] << 8 | (i < text.length() ? text.charAt(i) : ' ');
        }
        long least = Long.MAX_VALUE;
        for (int round = 0; round < 5; round++) {
            long before = meter.getThreadAllocatedBytes(Thread.currentThread().getId());
            long sum = everyCall(x, fed);
            long after = meter.getThreadAllocatedBytes(Thread.currentThread().getId());
            holds("the calls answer alike each time", sum == everyCall(x, fed));
            least = Math.min(least, after - before);
        }
        return least;
    }

    private static long everyCall(EbbWreck x, int[] fed) {
        for (int i = 0; i < fed.length; i += 5) {
            x.feed(fed[i], fed[i + 1], fed[i + 2], fed[i + 3], fed[i + 4]);
        }
        long sum = x.end(x.count(11)) + x.shore() + x.fault(0) + x.cell(1, 0) + x.thing(0, 0) + x.rule(0, 0);
        sum = sum * 31 + x.sitter(0) + x.phase(3) + x.next(0, 1) + x.drifts(1, 0) + x.at(0, 1) + x.comes(0);
        sum = sum * 31 + x.beach(0) + x.whose(0) + x.has(1) + x.line(4) + x.argued() + x.gaps(1) + x.idle();
        sum = sum * 31 + x.without(0, 1) + x.strike(1) + x.pushes(0, 1) + x.push(0, 1, 0) + x.way(0, 1, 0);
        sum = sum * 31 + x.soonest(0, 1) + x.ward(0, 1) + x.all(1) + x.richest() + x.meet(0, 1) + x.lasts(3);
        sum = sum * 31 + x.slacks(9) + x.eddy(1) + x.stuck() + x.drop(1, 0) + x.drops(1) + x.share(0);
        sum = sum * 31 + x.origins(0, 2, 4) + x.when(2, 2, 4) + x.row(0, 1, 4) + x.write(0, 2, 5) + x.row(1, 1, 4);
        sum = sum * 31 + x.paste(0, 0, 1, 0, 4) + x.fits(0) + x.fit(0, 0) + x.ask(0) + x.leaves(0) + x.seat(0, 4);
        sum = sum * 31 + x.seats(0) + x.rests() + x.rest(0) + x.clock(1, 2) + x.set(1) + x.rate(0, 7) + x.sit(0, 0);
        sum = sum * 31 + x.shove(0, 0, 0) + x.image(0) + x.undo() + x.anew() + x.drawn(7, 0, 0) + x.luck(7, 9, 0, 1);
        return sum * 31 + x.waits(7, 20, 0) + x.back(0) + x.fault(1);
    }

    // The files and tests that it names.

    private static void files(Path root, String readme) {
        Matcher m = Pattern.compile("[\\w./]*/[\\w./]+").matcher(readme);
        while (m.find()) {
            String name = m.group().replaceAll("/$", "");
            holds("there is no " + name, Files.exists(root.resolve(name)));
        }
    }

    private static void tests(Path root, String readme) throws Exception {
        String run = Files.readString(root.resolve(".ci/run"));
        String commands = String.join("", blocks(readme, "sh"));
        TreeSet<String> started = new TreeSet<>();
        Matcher java = Pattern.compile("(?m)^java -cp out (\\w+)").matcher(commands);
        while (java.find()) {
            started.add(java.group(1));
        }
        try (Stream<Path> all = Files.list(root.resolve("src/test/java"))) {
            for (Path path : all.toList()) {
                String name = path.getFileName().toString().replace(".java", "");
                holds("README.md does not name " + name, readme.contains("`" + name + "`"));
                if (Files.readString(path).contains("public static void main(")) {
                    holds("README.md does not start " + name, started.remove(name));
                    holds(".ci/run does not run " + name, run.contains("java -cp \"$out/own\" " + name));
                }
            }
        }
        holds("README.md starts what is no test: " + started, started.isEmpty());
    }
}
