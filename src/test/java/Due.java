/** Compares answers with what is due and ends the program with 1 if one was wrong. */
final class Due {
    private static final long MOST_MILLIS = 120_000;

    private final String about;
    private int wrong;

    Due(String about) {
        this.about = about;
        Thread watch = new Thread(this::endIfLate);
        watch.setDaemon(true);
        watch.start();
    }

    /** A call that does not end is a fault as well, and must not keep .ci/run waiting for ever. */
    private void endIfLate() {
        try {
            Thread.sleep(MOST_MILLIS);
        } catch (InterruptedException e) {
            return;
        }
        System.out.println(about + ": a call does not end");
        Runtime.getRuntime().halt(1);
    }

    void is(String call, long got, long want) {
        if (got != want) {
            wrong++;
            System.out.println(about + ": " + call + " answered " + got + ", due is " + want);
        }
    }

    void yes(String call, boolean got) {
        is(call, got ? 1 : 0, 1);
    }

    void no(String call, boolean got) {
        is(call, got ? 1 : 0, 0);
    }

    void end() {
        System.out.println(about + ": " + (wrong == 0 ? "all answers are as due" : wrong + " answers are not as due"));
        if (wrong != 0) {
            System.exit(1);
        }
    }
}
