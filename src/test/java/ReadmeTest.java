import java.io.ByteArrayOutputStream;
import java.io.IOException;
import java.io.InputStream;
import java.nio.file.Files;
import java.nio.file.Path;
import java.util.ArrayList;
import java.util.List;
import java.util.stream.Collectors;
import java.util.stream.Stream;

/** README.md: its example prints what it says, and it names every call and every test. It is run from the project's folder. */
public final class ReadmeTest {
    private static final Path PAGE = Path.of("README.md");
    private static final Path SOURCE = Path.of("src/main/java/Deadlinekeeper.java");
    private static final Path TESTS = Path.of("src/test/java");

    public static void main(String[] args) throws IOException, InterruptedException {
        List<String> page = Files.readAllLines(PAGE);
        List<String> example = exampleIn(page);
        Check.is("the example prints something", dueOf(example).isEmpty(), false);
        Check.is("the example", printedBy(example), String.join("\n", dueOf(example)));
        String whole = String.join("\n", page);
        for (var method : Deadlinekeeper.class.getMethods()) {
            if (method.getDeclaringClass() == Deadlinekeeper.class) {
                isNamed(whole, method.getName());
            }
        }
        for (String test : tests()) {
            isNamed(whole, test);
        }
        for (String words : List.of("    .ci/run", "../shared/tests", "javac -d out", "exit code")) {
            Check.is("it says " + words, whole.contains(words), true);
        }
        Check.done("ReadmeTest");
    }

    private static void isNamed(String page, String name) {
        Check.is(name + " is named", page.contains("`" + name + "`"), true);
    }

    private static List<String> tests() throws IOException {
        try (Stream<Path> files = Files.list(TESTS)) {
            return files.map(file -> file.getFileName().toString()).filter(name -> name.endsWith("Test.java"))
                    .map(name -> name.substring(0, name.length() - ".java".length())).collect(Collectors.toList());
        }
    }

    private static List<String> exampleIn(List<String> page) {
        int begin = page.indexOf("```java") + 1;
        int end = begin;
        while (!page.get(end).equals("```")) {
            end++;
        }
        return page.subList(begin, end);
    }

    /** What each line that prints says behind its //. */
    private static List<String> dueOf(List<String> example) {
        List<String> due = new ArrayList<>();
        for (String line : example) {
            if (line.contains("println")) {
                due.add(line.substring(line.indexOf("//") + 2).strip());
            }
        }
        return due;
    }

    private static String printedBy(List<String> example) throws IOException, InterruptedException {
        Path folder = Files.createTempDirectory("readme");
        try {
            Path file = folder.resolve("Example.java");
            Files.write(file, example);
            String out = folder.resolve("out").toString();
            toldBy("javac", "-d", out, SOURCE.toString(), file.toString());
            return toldBy("java", "-cp", out, "Example");
        } finally {
            remove(folder);
        }
    }

    private static String toldBy(String... command) throws IOException, InterruptedException {
        Process process = new ProcessBuilder(command).redirectError(ProcessBuilder.Redirect.INHERIT).start();
        ByteArrayOutputStream told = new ByteArrayOutputStream();
        try (InputStream stream = process.getInputStream()) {
            stream.transferTo(told);
        }
        Check.is(command[0] + " ends with exit code", process.waitFor(), 0);
        return told.toString().strip().replace(System.lineSeparator(), "\n");
    }

    private static void remove(Path folder) throws IOException {
        List<Path> paths;
        try (Stream<Path> found = Files.walk(folder)) {
            paths = found.collect(Collectors.toList());
        }
        for (int k = paths.size() - 1; k >= 0; k--) {
            Files.delete(paths.get(k));
        }
    }
}
