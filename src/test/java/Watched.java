import java.lang.reflect.InvocationTargetException;
import java.lang.reflect.Method;

/** Runs a test, the main method of the class that is named, and ends it as failed when a call does not come to an end. */
public final class Watched {
    private static final long MOST_MILLISECONDS = 300_000;

    private Watched() {
    }

    public static void main(String[] args) throws Throwable {
        Thread watch = new Thread(Watched::endWhenLate);
        watch.setDaemon(true);
        watch.start();
        Method test = Class.forName(args[0]).getDeclaredMethod("main", String[].class);
        test.setAccessible(true);
        try {
            test.invoke(null, (Object) new String[0]);
        } catch (InvocationTargetException e) {
            throw e.getCause();
        }
    }

    private static void endWhenLate() {
        try {
            Thread.sleep(MOST_MILLISECONDS);
        } catch (InterruptedException e) {
            return;
        }
        System.out.println("not ended within " + MOST_MILLISECONDS / 1000 + " seconds");
        System.out.flush();
        Runtime.getRuntime().halt(1);
    }
}
