/** Counts the answers that are not as due, and ends a test by them. */
final class Checks {
    /** Far above what a test takes. */
    private static final long MOST_MILLISECONDS = 300_000;

    private int asked = 0;
    private int wrong = 0;

    /** A call that does not end fails its test by this, and does not hold up the others. */
    Checks() {
        Thread guard = new Thread(Checks::endIfLate);
        guard.setDaemon(true);
        guard.start();
    }

    private static void endIfLate() {
        try {
            Thread.sleep(MOST_MILLISECONDS);
        } catch (InterruptedException e) {
            return;
        }
        System.out.println("the test does not end");
        Runtime.getRuntime().halt(1);
    }

    void due(String call, Object got, Object want) {
        asked++;
        if (!String.valueOf(got).equals(String.valueOf(want))) {
            wrong++;
            System.out.println(call + " answered " + got + ", due is " + want);
        }
    }

    int asked() {
        return asked;
    }

    void finish(String test) {
        System.out.println(test + ": " + asked + " answers, " + wrong + " not as due");
        if (wrong != 0) {
            System.exit(1);
        }
    }
}
