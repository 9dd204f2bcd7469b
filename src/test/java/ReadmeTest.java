import java.io.File;
import java.io.IOException;
import java.lang.reflect.Method;
import java.lang.reflect.Modifier;
import java.nio.file.Files;
import java.nio.file.Path;
import java.nio.file.StandardCopyOption;
import java.util.ArrayList;
import java.util.Comparator;
import java.util.List;
import java.util.Set;
import java.util.TreeSet;
import java.util.regex.Matcher;
import java.util.regex.Pattern;
import java.util.stream.Stream;
import javax.tools.ToolProvider;

/** What README.md tells is so: its example, the names in it, and the way in which the tests run and fail. */
final class ReadmeTest {
    private static final String GOOD = "final class NAME { public static void main(String[] args) { new Palettehouse(); } }";
    private static final String BAD = "final class NAME { public static void main(String[] args) { new Palettehouse(); System.exit(1); } }";
    private static final String THROWS = "final class NAME { public static void main(String[] args) { throw new Error(); } }";
    private static final String NO_JAVA = "final class NAME { new Palettehouse() }";
    private static final String HELPER = "final class NAME { }";

    private static Path folder;
    private static int output;

    public static void main(String[] args) throws Exception {
        folder = Files.createTempDirectory("readme");
        try {
            String readme = Files.readString(Path.of("README.md"));
            example(partOf(readme, "## How to use it", "## How to run its tests"));
            callsAreNamed(readme);
            filesAreThere(readme);
            testsAreNamed(partOf(readme, "## How to run its tests", null));
            commandsRun(partOf(readme, "## How to run its tests", null));
            runsFailAsTold();
        } finally {
            clear(folder);
        }
        Check.end();
    }

    private static String partOf(String text, String from, String to) {
        int start = text.indexOf(from);
        int end = to == null ? text.length() : text.indexOf(to);
        Check.isTrue("README.md has no part " + from, start >= 0 && end > start);
        return start >= 0 && end > start ? text.substring(start, end) : "";
    }

    private static List<String> blocksOf(String text, String kind) {
        List<String> blocks = new ArrayList<>();
        Matcher block = Pattern.compile("```" + kind + "\n(.*?)```", Pattern.DOTALL).matcher(text);
        while (block.find()) {
            blocks.add(block.group(1));
        }
        return blocks;
    }

    // ---- how to use it

    /** The example compiles, runs, and each name in it has the answer that its comment tells. */
    private static void example(String part) throws Exception {
        List<String> blocks = blocksOf(part, "java");
        Check.same("examples", 1, blocks.size());
        StringBuilder text = new StringBuilder("public final class Example { public static String wrong() { String wrong = \"\";\n");
        int answers = 0;
        for (String line : String.join("\n", blocks).split("\n")) {
            text.append(line).append('\n');
            Matcher told = Pattern.compile("int (\\w+) = .*// answers (-?\\d+).*").matcher(line);
            if (told.matches()) {
                answers++;
                text.append("if (" + told.group(1) + " != " + told.group(2) + ") { wrong += \" " + told.group(1) + " is \" + "
                        + told.group(1) + "; }\n");
            }
        }
        Check.isTrue("the example tells few answers", answers >= 3);
        text.append("return wrong; } }\n");
        Path file = Files.writeString(folder.resolve("Example.java"), text);
        int failed = ToolProvider.getSystemJavaCompiler().run(null, null, null, "-d", folder.toString(),
                "src/main/java/Palettehouse.java", file.toString());
        Check.same("compiling the example", 0, failed);
        if (failed == 0) {
            try (var loader = new java.net.URLClassLoader(new java.net.URL[] {folder.toUri().toURL()}, null)) {
                Object wrong = loader.loadClass("Example").getMethod("wrong").invoke(null);
                Check.isTrue("in the example:" + wrong, "".equals(wrong));
            }
        }
    }

    private static void callsAreNamed(String readme) {
        for (Method method : Palettehouse.class.getDeclaredMethods()) {
            if (Modifier.isPublic(method.getModifiers())) {
                Check.isTrue("README.md does not name " + method.getName(), readme.contains("`" + method.getName() + "`"));
            }
        }
    }

    private static void filesAreThere(String readme) {
        Matcher path = Pattern.compile("`((?:\\.\\./|\\.ci/|src/)[\\w./]*)`").matcher(readme);
        int count = 0;
        while (path.find()) {
            count++;
            Check.isTrue("not there: " + path.group(1), Files.exists(Path.of(path.group(1))));
        }
        Check.isTrue("README.md names no files", count > 0);
    }

    // ---- how to run its tests

    private static void testsAreNamed(String part) throws IOException {
        Set<String> named = new TreeSet<>();
        Matcher name = Pattern.compile("`(\\w+Test)`").matcher(part);
        while (name.find()) {
            named.add(name.group(1));
        }
        Set<String> there = new TreeSet<>();
        try (Stream<Path> files = Files.list(Path.of("src/test/java"))) {
            files.map(file -> file.getFileName().toString()).filter(file -> file.endsWith("Test.java"))
                    .forEach(file -> there.add(file.replace(".java", "")));
        }
        Check.isTrue("README.md names the tests " + named + ", there are " + there, named.equals(there));
    }

    /** The first block is the script, which this test runs below; the lines of the second one run here, but for few runs. */
    private static void commandsRun(String part) throws Exception {
        List<String> blocks = blocksOf(part, "sh");
        Check.same("blocks of commands", 2, blocks.size());
        Check.isTrue("the tests are not run by .ci/run", blocks.get(0).equals(".ci/run\n"));
        Check.isTrue(".ci/run cannot be run", Files.isExecutable(Path.of(".ci/run")));
        Check.isTrue("more runs are not told", blocks.get(1).contains(" 20000 "));
        String commands = blocks.get(1).replace("/tmp/palettehouse", folder.resolve("own").toString()).replace(" 20000 ", " 2 ");
        for (String command : commands.split("\n")) {
            Check.same(command, 0, exitOf(Path.of("."), "sh", "-c", command));
        }
        Check.isTrue("no list of answers is told", Files.readString(outputFile()).contains("addLayer="));
    }

    private static void runsFailAsTold() throws Exception {
        int good = run("all pass", GOOD, GOOD, true);
        Check.same("a run in which all tests pass", 0, good);
        Check.isTrue("a run in which an own test fails passed", run("an own one fails", BAD, GOOD, true) != 0);
        Check.isTrue("a run in which an own test throws passed", run("an own one throws", THROWS, GOOD, true) != 0);
        Check.isTrue("a run in which a shared test fails passed", run("a shared one fails", GOOD, BAD, true) != 0);
        Check.isTrue("a run in which a shared test throws passed", run("a shared one throws", GOOD, THROWS, true) != 0);
        Check.isTrue("a run with an own test that is no Java passed", run("an own one is no Java", NO_JAVA, GOOD, false) != 0);
        Check.isTrue("a run with a shared test that is no Java passed", run("a shared one is no Java", GOOD, NO_JAVA, false) != 0);
    }

    /** The script in a small project of its own: two tests of its own, the second one as told, and two shared ones. */
    private static int run(String what, String own, String shared, boolean isAllRun) throws Exception {
        Path place = folder.resolve(what.replace(' ', '-'));
        Path main = place.resolve("main");
        put(main.resolve("src/main/java"), "Palettehouse", "public final class Palettehouse { }");
        put(main.resolve("src/test/java"), "FirstTest", GOOD);
        put(main.resolve("src/test/java"), "OtherTest", own);
        put(main.resolve("src/test/java"), "Helper", HELPER);
        put(place.resolve("shared/tests"), "SharedRuns", shared);
        put(place.resolve("shared/tests"), "YetOthers", GOOD);
        Files.createDirectories(main.resolve(".ci"));
        Files.copy(Path.of(".ci/run"), main.resolve(".ci/run"), StandardCopyOption.COPY_ATTRIBUTES);
        int exit = exitOf(place, main.resolve(".ci/run").toString());
        String said = Files.readString(outputFile());
        for (String name : isAllRun ? List.of("FirstTest", "OtherTest", "SharedRuns", "YetOthers") : List.<String>of()) {
            boolean isGood = (name.equals("OtherTest") ? own : name.equals("SharedRuns") ? shared : GOOD).equals(GOOD);
            Check.isTrue(what + ": " + name + " is not told as due", said.contains((isGood ? "ok      " : "FAILED  ") + name + "\n"));
        }
        int failures = own.equals(shared) ? 0 : 1;
        Check.isTrue(what + ": the last line", !isAllRun || said.endsWith((4 - failures) + " passed, " + failures + " failed\n"));
        Check.isTrue(what + ": a helper was run", !said.contains("Helper\n"));
        return exit;
    }

    private static void put(Path place, String name, String text) throws IOException {
        Files.createDirectories(place);
        Files.writeString(place.resolve(name + ".java"), text.replace("NAME", name));
    }

    private static Path outputFile() {
        return folder.resolve("output" + output);
    }

    private static int exitOf(Path place, String... command) throws Exception {
        output++;
        File said = outputFile().toFile();
        return new ProcessBuilder(command).directory(place.toFile()).redirectErrorStream(true).redirectOutput(said).start().waitFor();
    }

    private static void clear(Path place) throws IOException {
        List<Path> all;
        try (Stream<Path> files = Files.walk(place)) {
            all = files.sorted(Comparator.reverseOrder()).toList();
        }
        for (Path path : all) {
            Files.delete(path);
        }
    }
}
