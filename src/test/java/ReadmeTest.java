import java.io.IOException;
import java.lang.reflect.Method;
import java.lang.reflect.Modifier;
import java.nio.file.Files;
import java.nio.file.Path;
import java.nio.file.StandardCopyOption;
import java.util.ArrayList;
import java.util.Comparator;
import java.util.List;
import java.util.concurrent.TimeUnit;
import java.util.regex.Matcher;
import java.util.regex.Pattern;
import java.util.stream.Stream;

/** README.md: its commands work on a clean checkout and print what it says, and it names every call and every test. */
public final class ReadmeTest {
    private static final Path README = Path.of("README.md");
    private static final Path SCRIPT = Path.of(".ci/run");
    private static final Pattern BLOCK = Pattern.compile("(?ms)^```(\\w+)\n(.*?)^```$");
    /** What a checkout holds that the commands could need; a build of this one's must not help them. */
    private static final String[] CHECKED_OUT = {".ci", "src", "README.md"};
    private static final int SECONDS = 120;

    public static void main(String[] args) throws Exception {
        Due d = new Due();
        String readme = Files.readString(README);
        Path room = Files.createTempDirectory("readme");
        try {
            runBlocks(d, readme, checkout(room));
        } finally {
            remove(room);
        }
        for (Method call : ClockTeeth.class.getDeclaredMethods()) {
            if (Modifier.isPublic(call.getModifiers())) {
                d.due("names " + call.getName(), readme.contains("`" + call.getName() + "`") ? 1 : 0, 1);
            }
        }
        for (Path test : filesUnder(Path.of("src/test/java"))) {
            String name = test.getFileName().toString().replace(".java", "");
            if (name.endsWith("Test")) {
                d.due("names " + name, readme.contains("\n- `" + name + "`: ") ? 1 : 0, 1);
            }
        }
        d.finish("ReadmeTest");
    }

    private static void runBlocks(Due d, String readme, Path checkout) throws Exception {
        int commands = 0;
        String printed = "";
        Matcher block = BLOCK.matcher(readme);
        while (block.find()) {
            String text = block.group(2);
            if (block.group(1).equals("text")) {
                d.due("prints\n" + printed + "and not\n" + text, printed.equals(text) ? 1 : 0, 1);
            } else if (text.trim().equals(SCRIPT.toString())) {
                // it is what runs this test: here it would not end
                d.due(SCRIPT + " can be run", Files.isExecutable(checkout.resolve(SCRIPT)) ? 1 : 0, 1);
                commands++;
            } else if (block.group(1).equals("sh")) {
                printed = printedBy(d, text, checkout);
                commands++;
            } else {
                d.due("no way to run a block of " + block.group(1), 1, 0);
            }
        }
        d.due("blocks of commands, 2 at least", Math.min(commands, 2), 2);
    }

    private static String printedBy(Due d, String commands, Path checkout) throws Exception {
        Path printed = Files.createTempFile(checkout.getParent(), "printed", ".txt");
        Process shell = new ProcessBuilder("sh", "-e", "-c", commands).directory(checkout.toFile())
                .redirectErrorStream(true).redirectOutput(printed.toFile()).start();
        if (!shell.waitFor(SECONDS, TimeUnit.SECONDS)) {
            // the shell's own end would leave the java that it waits for
            shell.descendants().forEach(ProcessHandle::destroyForcibly);
            shell.destroyForcibly();
            d.due("did not end within " + SECONDS + " seconds:\n" + commands, 1, 0);
            return "";
        }
        String text = Files.readString(printed);
        d.due("commands\n" + commands + "print\n" + text + "and", shell.exitValue(), 0);
        return text;
    }

    /** A copy of the checkout with ../shared beside it. */
    private static Path checkout(Path room) throws IOException {
        Path shared = Path.of("../shared").toAbsolutePath().normalize();
        Files.createSymbolicLink(room.resolve("shared"), shared);
        Path copy = Files.createDirectory(room.resolve("main"));
        for (String part : CHECKED_OUT) {
            for (Path file : filesUnder(Path.of(part))) {
                Path to = copy.resolve(file);
                Files.createDirectories(to.getParent());
                Files.copy(file, to, StandardCopyOption.COPY_ATTRIBUTES);
            }
        }
        return copy;
    }

    private static List<Path> filesUnder(Path root) throws IOException {
        List<Path> files = new ArrayList<>();
        try (Stream<Path> found = Files.walk(root)) {
            found.filter(Files::isRegularFile).sorted().forEach(files::add);
        }
        return files;
    }

    private static void remove(Path room) throws IOException {
        List<Path> all = new ArrayList<>();
        try (Stream<Path> found = Files.walk(room)) {
            found.sorted(Comparator.reverseOrder()).forEach(all::add);
        }
        for (Path one : all) {
            Files.delete(one);
        }
    }
}
