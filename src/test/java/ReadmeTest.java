import java.io.IOException;
import java.lang.reflect.Method;
import java.lang.reflect.Modifier;
import java.nio.charset.StandardCharsets;
import java.nio.file.Files;
import java.nio.file.Path;
import java.nio.file.StandardCopyOption;
import java.util.ArrayList;
import java.util.Comparator;
import java.util.List;
import java.util.regex.Matcher;
import java.util.regex.Pattern;
import java.util.stream.Stream;

/**
 * README.md says how the class is used and how its tests are run: its program is the one that stands in the project,
 * each command works as it stands there and prints what it is told to print, and each call and family is named.
 */
public final class ReadmeTest {

    private static final Path README = Path.of("README.md");
    private static final Path EXAMPLE = Path.of("src/example/java/Example.java");
    private static final Path ROOM = Path.of("build/readme");
    private static final String WHOLE_RUN = ".ci/run\n";

    /** A fenced block of the file: its kind and what stands in it. */
    private static final class Block {
        final String kind;
        final String content;

        Block(String kind, String content) {
            this.kind = kind;
            this.content = content;
        }
    }

    private static int passed = 0;
    private static int failed = 0;

    public static void main(String[] args) throws IOException, InterruptedException {
        String text = Files.readString(README);
        List<Block> blocks = blocksOf(text);
        checkExample(blocks);
        checkCommands(blocks);
        String plain = text.replaceAll("(?s)```.*?```", "");
        checkPaths(plain);
        checkNames(plain);
        System.out.println("ReadmeTest: " + passed + " passed, " + failed + " failed");
        if (failed > 0) {
            System.exit(1);
        }
    }

    private static void check(String what, boolean holds) {
        if (holds) {
            passed++;
        } else {
            failed++;
            System.out.println("not so: " + what);
        }
    }

    private static List<Block> blocksOf(String text) {
        List<Block> blocks = new ArrayList<>();
        Matcher matcher = Pattern.compile("(?ms)^```(\\w+)\\n(.*?)^```$").matcher(text);
        while (matcher.find()) {
            blocks.add(new Block(matcher.group(1), matcher.group(2)));
        }
        return blocks;
    }

    private static void checkExample(List<Block> blocks) throws IOException {
        String program = Files.readString(EXAMPLE);
        check("the program is " + EXAMPLE, blocks.stream().anyMatch(block -> block.kind.equals("java") && block.content.equals(program)));
        check("one program", blocks.stream().filter(block -> block.kind.equals("java")).count() == 1);
    }

    /** The program, the run of all tests, a single test of the project, and a single one of ../shared/tests. */
    private static void checkCommands(List<Block> blocks) throws IOException, InterruptedException {
        List<String> commands = new ArrayList<>();
        Path folder = newFolder();
        for (int i = 0; i < blocks.size(); i++) {
            Block block = blocks.get(i);
            if (!block.kind.equals("sh")) {
                continue;
            }
            commands.add(block.content);
            boolean isTold = i + 1 < blocks.size() && blocks.get(i + 1).kind.equals("text");
            if (block.content.equals(WHOLE_RUN)) {
                // this test is a part of the whole run: here it is only looked at
                check("a script that the shell can read", Files.isExecutable(folder.resolve(".ci/run")) && isRead(folder));
            } else {
                checkCommand(folder, block.content, isTold ? blocks.get(i + 1).content : null);
            }
        }
        check("all tests are run by a command", commands.contains(WHOLE_RUN));
        checkAny(commands, EXAMPLE.toString());
        checkAny(commands, "src/test/java/");
        checkAny(commands, "../shared/tests/");
    }

    private static void checkAny(List<String> commands, String part) {
        check("a command for " + part, commands.stream().anyMatch(command -> command.contains(part)));
    }

    private static boolean isRead(Path folder) throws IOException, InterruptedException {
        return start(folder, "bash", "-n", ".ci/run").waitFor() == 0;
    }

    private static void checkCommand(Path folder, String command, String due) throws IOException, InterruptedException {
        Process process = start(folder, "bash", "-e", "-c", command);
        String printed = new String(process.getInputStream().readAllBytes(), StandardCharsets.UTF_8);
        int code = process.waitFor();
        check("exit code 0, not " + code + ", of\n" + command + printed, code == 0);
        check("it prints what is told, not\n" + printed, due == null || due.equals(printed));
    }

    private static Process start(Path folder, String... words) throws IOException {
        return new ProcessBuilder(words).directory(folder.toFile()).redirectErrorStream(true).start();
    }

    /** A copy of the project's files with nothing built, beside ../shared. */
    private static Path newFolder() throws IOException {
        for (Path old : allIn(ROOM, Comparator.reverseOrder())) {
            Files.delete(old);
        }
        Path folder = ROOM.resolve("project");
        Files.createDirectories(folder);
        for (String name : List.of("src", ".ci")) {
            for (Path each : allIn(Path.of(name), Comparator.naturalOrder())) {
                Files.copy(each, folder.resolve(each), StandardCopyOption.COPY_ATTRIBUTES);
            }
        }
        Files.createSymbolicLink(ROOM.resolve("shared"), Path.of("../shared").toRealPath());
        return folder;
    }

    private static List<Path> allIn(Path top, Comparator<Path> order) throws IOException {
        if (!Files.exists(top)) {
            return List.of();
        }
        try (Stream<Path> all = Files.walk(top)) {
            return all.sorted(order).toList();
        }
    }

    private static void checkPaths(String plain) {
        Matcher matcher = Pattern.compile("`((?:\\.\\./|src/|\\.ci/)[\\w./]+|\\w+\\.md)`").matcher(plain);
        int paths = 0;
        while (matcher.find()) {
            paths++;
            check("there is " + matcher.group(1), Files.exists(Path.of(matcher.group(1))));
        }
        check("files are named", paths > 0);
    }

    private static void checkNames(String plain) {
        for (Method method : PartitionCabinet.class.getDeclaredMethods()) {
            if (Modifier.isPublic(method.getModifiers())) {
                check("it names " + method.getName(), plain.contains("`" + method.getName() + "`"));
            }
        }
        for (char family : "algdoskubvtc".toCharArray()) {
            check("it names the family " + family, plain.contains("| `" + family + "` |"));
        }
        check("it says how an object is made", plain.contains("`new PartitionCabinet()`"));
    }
}
