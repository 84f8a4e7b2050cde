import java.io.File;
import java.io.IOException;
import java.lang.reflect.Method;
import java.lang.reflect.Modifier;
import java.nio.file.Files;
import java.nio.file.Path;
import java.util.ArrayList;
import java.util.Arrays;
import java.util.Comparator;
import java.util.List;
import java.util.Set;
import java.util.TreeSet;
import java.util.regex.Matcher;
import java.util.regex.Pattern;
import java.util.stream.Stream;

/** What README.md says of using the class and of running its tests holds as it is written there. */
public final class ReadmeTest {
    private static final Path README = Path.of("README.md");
    private static final Path TESTS = Path.of("src", "test", "java");
    private static final String ALL_TESTS = ".ci/run\n";
    private static final Pattern BLOCK = Pattern.compile("^```(\\w+)\n(.*?)^```$", Pattern.MULTILINE | Pattern.DOTALL);
    private static final Pattern CALL_ROW = Pattern.compile("^\\| `(\\w+)\\((.*?)\\)` \\|.*\\|(.*)\\|$", Pattern.MULTILINE);
    private static final Pattern QUOTED_NAME = Pattern.compile("`(\\w+)`");

    private final Check check = new Check();
    private final String text;

    private ReadmeTest() throws IOException {
        text = Files.readString(README);
    }

    public static void main(String[] args) throws IOException, InterruptedException {
        ReadmeTest test = new ReadmeTest();
        test.callsAreTheFace();
        test.namedTestsAreThere();
        Path room = Files.createTempDirectory("readme");
        try {
            test.commandsDoWhatIsWritten(room);
        } finally {
            delete(room);
        }
        test.check.end();
    }

    /** The table of calls has each method of the face, with as many arguments and its exceptions. */
    private void callsAreTheFace() {
        Set<String> told = new TreeSet<>();
        Matcher row = CALL_ROW.matcher(text);
        while (row.find()) {
            told.add(row.group(1) + " " + row.group(2).split(", ").length + " " + namesIn(row.group(3)));
        }
        Set<String> there = new TreeSet<>();
        for (Method method : VipBoard.class.getDeclaredMethods()) {
            if (Modifier.isPublic(method.getModifiers())) {
                Set<String> thrown = new TreeSet<>();
                Arrays.stream(method.getExceptionTypes()).forEach(type -> thrown.add(type.getSimpleName()));
                there.add(method.getName() + " " + method.getParameterCount() + " " + thrown);
            }
        }
        same("the table of calls", told.toString(), there.toString());
    }

    private static Set<String> namesIn(String words) {
        Set<String> names = new TreeSet<>();
        Matcher name = QUOTED_NAME.matcher(words);
        while (name.find()) {
            names.add(name.group(1));
        }
        return names;
    }

    /** Each test of the project is named, and no test is named that is not there. */
    private void namedTestsAreThere() throws IOException {
        Set<String> there = new TreeSet<>();
        try (Stream<Path> files = Files.list(TESTS)) {
            files.map(file -> file.getFileName().toString().replace(".java", "")).forEach(there::add);
        }
        there.removeIf(name -> !name.endsWith("Test") && !name.endsWith("Edges") || name.equals("Edges"));
        Set<String> told = namesIn(text);
        told.removeIf(name -> !name.endsWith("Test") && !name.endsWith("Edges"));
        same("the tests that are named", told.toString(), there.toString());
    }

    /** The blocks one after the other, in a copy of the project with the example in it. */
    private void commandsDoWhatIsWritten(Path room) throws IOException, InterruptedException {
        Path project = Files.createDirectory(room.resolve("main"));
        Files.createSymbolicLink(room.resolve("shared"), Path.of("..", "shared").toRealPath());
        Files.createSymbolicLink(project.resolve("src"), Path.of("src").toRealPath());
        List<String> kinds = new ArrayList<>();
        String printed = "";
        Matcher block = BLOCK.matcher(text);
        while (block.find()) {
            String words = block.group(2);
            kinds.add(block.group(1));
            switch (block.group(1)) {
                case "java" -> Files.writeString(project.resolve("Example.java"), words);
                case "sh" -> printed = words.equals(ALL_TESTS) ? allTestsAreThere() : run(project, words);
                case "text" -> same("the example", printed, words);
                default -> same("a block", block.group(1), "one of java, sh, text");
            }
        }
        same("the blocks", kinds.toString(), "[java, sh, text, sh, sh, sh]");
    }

    /** It can't be run from here, for it runs this test. */
    private String allTestsAreThere() {
        check.due(".ci/run can be run", Files.isExecutable(Path.of(".ci", "run")) ? 1 : 0, 1);
        return "";
    }

    private String run(Path where, String commands) throws IOException, InterruptedException {
        File output = where.resolve("output.txt").toFile();
        Process process = new ProcessBuilder("sh", "-e", "-c", commands)
                .directory(where.toFile()).redirectErrorStream(true).redirectOutput(output).start();
        int code = process.waitFor();
        String printed = Files.readString(output.toPath());
        check.due("the exit code of " + commands + "which printed " + printed, code, 0);
        return printed;
    }

    private void same(String what, String got, String want) {
        check.due(what + ": " + got + " is " + want, got.equals(want) ? 1 : 0, 1);
    }

    private static void delete(Path room) throws IOException {
        List<Path> files;
        try (Stream<Path> all = Files.walk(room)) {
            files = all.sorted(Comparator.reverseOrder()).toList();
        }
        for (Path file : files) {
            Files.delete(file);
        }
    }
}
