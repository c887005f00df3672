/** Counts the calls whose answers are not as due, and ends the program with exit code 1 if there was one. */
final class Due {
    private static final int MOST_SECONDS = 300;

    private final String name;
    private int asked = 0;
    private int wrong = 0;

    Due(String name) {
        this.name = name;
        Thread watch = new Thread(this::endIfStuck);
        watch.setDaemon(true);
        watch.start();
    }

    void is(String call, long got, long want) {
        asked++;
        if (got != want) tell(call, String.valueOf(got), String.valueOf(want));
    }

    void same(String call, String got, String want) {
        asked++;
        if (!got.equals(want)) tell(call, got, want);
    }

    void holds(String what, boolean so) {
        is(what, so ? 1 : 0, 1);
    }

    void end() {
        System.out.println(name + ": " + asked + " answers, " + wrong + " not as due");
        if (wrong != 0 || asked == 0) System.exit(1);
    }

    private void tell(String call, String got, String want) {
        wrong++;
        System.out.println(name + ": " + call + " answered " + got + ", due is " + want);
    }

    /** A call that never ends is wrong, too: without this the test would never tell so. */
    private void endIfStuck() {
        try {
            Thread.sleep(1000L * MOST_SECONDS);
        } catch (InterruptedException ended) {
            return;
        }
        System.out.println(name + ": no end within " + MOST_SECONDS + " seconds");
        Runtime.getRuntime().halt(1);
    }
}
