import java.lang.reflect.Method;

/** Runs the main method of the class that is named, and fails it if it does not end: a call must always end. */
final class Timed {
    private static final long MOST_MILLIS = 120_000;

    public static void main(String[] args) throws ReflectiveOperationException {
        Thread watch = new Thread(() -> endLate(args[0]));
        watch.setDaemon(true);
        watch.start();
        Method main = Class.forName(args[0]).getDeclaredMethod("main", String[].class);
        // a test's class need not be public
        main.setAccessible(true);
        main.invoke(null, (Object) new String[0]);
    }

    private static void endLate(String name) {
        try {
            Thread.sleep(MOST_MILLIS);
        } catch (InterruptedException e) {
            throw new IllegalStateException(e);
        }
        System.out.println(name + " did not end within " + MOST_MILLIS / 1000 + " seconds");
        System.out.flush();
        Runtime.getRuntime().halt(1);
    }
}
