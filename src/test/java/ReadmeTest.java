import java.io.IOException;
import java.io.UncheckedIOException;
import java.nio.file.Files;
import java.nio.file.Path;
import java.util.ArrayList;
import java.util.Comparator;
import java.util.List;
import java.util.regex.Matcher;
import java.util.regex.Pattern;
import java.util.stream.Collectors;
import java.util.stream.Stream;

/**
 * That README.md holds when it is done as it stands: its blocks are done in their order in a copy of the project, the
 * Java ones saved where the words ahead of them say, the shell ones run, and what they print compared with the text
 * that follows. Only .ci/run is not run again, since it is what runs this test.
 */
public final class ReadmeTest {
    private static final Path README = Path.of("README.md");
    private static final Path TESTS = Path.of("src/test/java");
    private static final Path SHARED = Path.of("../shared");
    private static final Path RUN = Path.of(".ci/run");

    private final Check check = new Check("ReadmeTest");
    private final String text = read(README);
    private Path project;
    private String printed = "";

    public static void main(String[] args) throws IOException, InterruptedException {
        ReadmeTest test = new ReadmeTest();
        Path room = Files.createTempDirectory("readme");
        try {
            test.copyInto(room);
            test.doAsItStands();
        } finally {
            remove(room);
        }
        test.namesEachTest();
        test.tellsKeys();
        test.check.end();
    }

    private static String read(Path path) {
        try {
            return Files.readString(path);
        } catch (IOException e) {
            throw new UncheckedIOException(e);
        }
    }

    private static List<Path> under(Path directory) throws IOException {
        try (Stream<Path> all = Files.walk(directory)) {
            return all.collect(Collectors.toList());
        }
    }

    private static void remove(Path directory) throws IOException {
        List<Path> all = under(directory);
        all.sort(Comparator.reverseOrder());
        for (Path path : all) {
            Files.delete(path);
        }
    }

    private void copyInto(Path room) throws IOException {
        project = room.resolve("main");
        copy(Path.of("src"), project.resolve("src"));
        copy(SHARED, room.resolve("shared"));
        Files.copy(README, project.resolve(README));
    }

    private static void copy(Path from, Path to) throws IOException {
        for (Path path : under(from)) {
            Path there = to.resolve(from.relativize(path));
            if (Files.isDirectory(path)) {
                Files.createDirectories(there);
            } else {
                Files.write(there, Files.readAllBytes(path));
            }
        }
    }

    private void doAsItStands() throws IOException, InterruptedException {
        Matcher block = Pattern.compile("(?s)([^\n]*)\n\n```(\\w+)\n(.*?)```").matcher(text);
        List<String> kinds = new ArrayList<>();
        while (block.find()) {
            kinds.add(block.group(2));
            switch (block.group(2)) {
                case "java":
                    save(block.group(1), block.group(3));
                    break;
                case "sh":
                    run(block.group(3));
                    break;
                default:
                    check.is("what is printed", printed, block.group(3));
            }
        }
        check.is("the blocks", String.join(" ", kinds), "java sh text sh sh sh");
    }

    private void save(String words, String program) throws IOException {
        Matcher place = Pattern.compile("Save this as `([^`]*)`").matcher(words);
        check.is("it tells where to save the program", place.find(), true);
        Path file = project.resolve(place.group(1));
        Files.createDirectories(file.getParent());
        Files.writeString(file, program);
    }

    private void run(String commands) throws IOException, InterruptedException {
        if (commands.trim().equals(RUN.toString())) {
            check.is(RUN + " can be run", Files.isExecutable(RUN), true);
            return;
        }
        ProcessBuilder shell = new ProcessBuilder("sh", "-e", "-c", commands);
        Process process = shell.directory(project.toFile()).redirectErrorStream(true).start();
        printed = new String(process.getInputStream().readAllBytes());
        int end = process.waitFor();
        check.is("how this ends: " + commands + printed, end, 0);
    }

    private void namesEachTest() throws IOException {
        for (Path path : under(TESTS)) {
            String name = path.getFileName().toString();
            if (name.endsWith("Test.java")) {
                check.is("it tells of " + name, text.contains("- `" + name.replace(".java", "") + "`: "), true);
            }
        }
        Matcher told = Pattern.compile("`(\\w+(?:Test|Edges))`").matcher(text);
        while (told.find()) {
            check.is("there is " + told.group(1), Files.exists(TESTS.resolve(told.group(1) + ".java")), true);
        }
        Matcher places = Pattern.compile("`((?:\\.\\./shared|src)[^`]*)`").matcher(text);
        while (places.find()) {
            check.is("there is " + places.group(1), Files.exists(Path.of(places.group(1))), true);
        }
    }

    private void tellsKeys() {
        BlobHarbor harbour = new BlobHarbor();
        Matcher told = Pattern.compile("\"([a-d]{1,3})\"\\s+is (\\d+)").matcher(text);
        int many = 0;
        while (told.find()) {
            int key = Integer.parseInt(told.group(2));
            String letters = "" + harbour.letter(key, 0) + harbour.letter(key, 1) + harbour.letter(key, 2);
            check.is("the key " + key, letters.trim(), told.group(1));
            many++;
        }
        check.is("it tells of keys", many > 0, true);
    }
}
