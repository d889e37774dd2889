import java.util.Objects;

/** Counts the checks of each promise and prints those that fail. */
final class Check {

    static final int PROMISES = 43;

    interface Call {
        Object answer();
    }

    private final int[] checks = new int[PROMISES + 1];
    private int promise;
    private int wrong;

    /** The checks that follow are of this promise; 0 is for what no single promise says. */
    void promise(int number) {
        promise = number;
    }

    void due(String what, Object want, Call call) {
        checks[promise]++;
        Object got = outcome(call);
        if (!Objects.equals(want, got)) {
            wrong++;
            System.out.println("promise " + promise + ": " + what + " answered " + got + ", due is " + want);
        }
    }

    /** The call throws exactly this exception, and the works answers everything as before. */
    void refused(String what, Class<? extends RuntimeException> want, CubefoldWorks works, Call call) {
        String before = Build.picture(works);
        due(what, want, call);
        due(what + " changed nothing", before, () -> Build.picture(works));
    }

    /** What a call answers, or the class of what it throws. */
    static Object outcome(Call call) {
        try {
            return call.answer();
        } catch (RuntimeException e) {
            return e.getClass();
        }
    }

    /** Ends the program with exit code 1 if a check failed or a promise has none. */
    void end() {
        int made = 0;
        for (int number = 0; number <= PROMISES; number++) {
            made += checks[number];
            if (number > 0 && checks[number] == 0) {
                wrong++;
                System.out.println("promise " + number + " has no check");
            }
        }
        System.out.println(made + " checks, " + wrong + " wrong");
        if (wrong != 0) {
            System.exit(1);
        }
    }
}
