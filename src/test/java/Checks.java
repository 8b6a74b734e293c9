import java.util.Objects;

/** Counts the checks of one test class, prints those that fail, and ends the program accordingly. */
final class Checks {
    private final String title;
    private int passed = 0;
    private int failed = 0;

    Checks(String title) {
        this.title = title;
    }

    void same(String what, Object want, Object got) {
        count(Objects.equals(want, got), what + ": due is " + want + ", got " + got);
    }

    /** The very class of the exception counts, not one below it. */
    void fails(String what, Class<? extends RuntimeException> want, Runnable call) {
        String got = "no exception";
        try {
            call.run();
        } catch (RuntimeException e) {
            got = e.getClass().getName();
        }
        count(got.equals(want.getName()), what + ": due is " + want.getName() + ", got " + got);
    }

    private void count(boolean isRight, String what) {
        if (isRight) {
            passed++;
        } else {
            failed++;
            System.out.println(title + ": " + what);
        }
    }

    void end() {
        System.out.println(title + ": " + passed + " passed, " + failed + " failed");
        if (failed > 0) {
            System.exit(1);
        }
    }
}
