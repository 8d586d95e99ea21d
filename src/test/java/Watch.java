/** A call that fails to end must fail the test, not keep it waiting. */
final class Watch {
    private static final long MOST_MILLISECONDS = 120_000;

    private Watch() { }

    static void begin() {
        Thread watch = new Thread(Watch::giveUp);
        watch.setDaemon(true);
        watch.start();
    }

    private static void giveUp() {
        try {
            Thread.sleep(MOST_MILLISECONDS);
        } catch (InterruptedException e) {
            return;
        }
        System.out.println("a call did not end");
        Runtime.getRuntime().halt(1);
    }
}
