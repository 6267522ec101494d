import java.nio.file.Path;
import java.util.concurrent.TimeUnit;

/** The limit of time that .ci/run sets: what does not end fails, and so does what fails or throws; the rest passes. */
public final class WithinTest {
    private static volatile long turns = 0;

    public static void main(String[] args) throws Exception {
        if (args.length == 0) {
            test();
            return;
        }
        switch (args[0]) {
            case "endless":
                while (turns >= 0) {
                    turns = turns + 1 & Long.MAX_VALUE;
                }
                break;
            case "throws": throw new IllegalStateException("as this test wants it");
            case "fails": System.exit(1); break;
            default: break;
        }
    }

    private static void test() throws Exception {
        Due d = new Due();
        d.due("a test that does not end", exitOf("1", "endless"), 1);
        d.due("a test that throws", exitOf("60", "throws"), 1);
        d.due("a test that fails", exitOf("60", "fails"), 1);
        d.due("a test that passes", exitOf("60", "passes"), 0);
        d.finish("WithinTest");
    }

    private static int exitOf(String seconds, String way) throws Exception {
        String java = Path.of(System.getProperty("java.home"), "bin", "java").toString();
        Process one = new ProcessBuilder(java, "-cp", System.getProperty("java.class.path"), "Within", seconds, "WithinTest", way)
                .redirectErrorStream(true).redirectOutput(ProcessBuilder.Redirect.DISCARD).start();
        if (!one.waitFor(60, TimeUnit.SECONDS)) {
            one.destroyForcibly();
            return -1;
        }
        return one.exitValue();
    }
}
