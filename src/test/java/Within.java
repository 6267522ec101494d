import java.lang.reflect.InvocationTargetException;
import java.util.Arrays;

/** Runs a test's main method and ends it as failed when its seconds are over: a call that does not end must not pass for one that does. */
public final class Within {
    private static final int TOO_LATE = 1;

    public static void main(String[] args) throws Exception {
        if (args.length < 2) {
            System.out.println("Within: seconds and a class are wanted");
            System.exit(1);
        }
        int seconds = Integer.parseInt(args[0]);
        String name = args[1];
        Thread watch = new Thread(() -> endBehind(seconds, name));
        watch.setDaemon(true);
        watch.start();
        String[] rest = Arrays.copyOfRange(args, 2, args.length);
        try {
            Class.forName(name).getMethod("main", String[].class).invoke(null, (Object) rest);
        } catch (InvocationTargetException thrown) {
            thrown.getCause().printStackTrace(System.out);
            System.exit(1);
        }
    }

    private static void endBehind(int seconds, String name) {
        try {
            Thread.sleep(1000L * seconds);
        } catch (InterruptedException woken) {
            return;
        }
        System.out.println(name + " did not end within " + seconds + " seconds");
        System.out.flush();
        // exit() would wait for a main method that never gives way
        Runtime.getRuntime().halt(TOO_LATE);
    }
}
