import java.lang.reflect.Method;

/**
 * Runs the main method of a test, but no longer than some seconds: a call that never ends must fail
 * its test, not hold it up for ever.
 */
public final class Limit {
    private static final int STUCK = 3;

    private Limit() {
    }

    public static void main(String[] args) throws ReflectiveOperationException {
        int seconds = Integer.parseInt(args[0]);
        Thread guard = new Thread(() -> halt(seconds));
        guard.setDaemon(true);
        guard.start();
        Method main = Class.forName(args[1]).getMethod("main", String[].class);
        main.invoke(null, (Object) new String[0]);
    }

    private static void halt(int seconds) {
        try {
            Thread.sleep(1000L * seconds);
        } catch (InterruptedException e) {
            return;
        }
        System.out.println("it has not ended within " + seconds + " seconds");
        System.out.flush();
        Runtime.getRuntime().halt(STUCK);
    }
}
