/** A call that does not end is a fault too, and must not hold up the tests behind it. */
final class Watch {
    /** Far above what any test needs. */
    private static final long MOST_MILLISECONDS = 120_000;

    private Watch() {
    }

    /** From now on the test has so long, and no longer. */
    static void start() {
        Thread watch = new Thread(Watch::stopInTime);
        watch.setDaemon(true);
        watch.start();
    }

    private static void stopInTime() {
        try {
            Thread.sleep(MOST_MILLISECONDS);
        } catch (InterruptedException e) {
            return;
        }
        System.out.println("a call does not end");
        Runtime.getRuntime().halt(1);
    }
}
