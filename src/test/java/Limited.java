/** Runs a test program; one that goes on for too long has failed, and is ended, as it may never end. */
final class Limited {
    private static final int FAILED = 1;

    private Limited() {
    }

    /** args: the most seconds, and the name of the test program's class. */
    public static void main(String[] args) throws ReflectiveOperationException {
        long seconds = Long.parseLong(args[0]);
        String name = args[1];
        Thread watch = new Thread(() -> endBehind(seconds, name));
        // So that the watch ends with the test instead of holding it up.
        watch.setDaemon(true);
        watch.start();
        Class.forName(name).getMethod("main", String[].class).invoke(null, (Object) new String[0]);
    }

    private static void endBehind(long seconds, String name) {
        try {
            Thread.sleep(1000 * seconds);
        } catch (InterruptedException e) {
            return;
        }
        System.out.println(name + ": not at its end after " + seconds + " seconds");
        System.out.flush();
        Runtime.getRuntime().halt(FAILED);
    }
}
