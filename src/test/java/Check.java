import java.util.Map;
import java.util.NoSuchElementException;
import java.util.Objects;
import java.util.TreeMap;
import java.util.function.Consumer;

/** Counts the checks of each promise and of each sentence that names a boundary, and prints those that fail. */
final class Check {

    static final int PROMISES = 43;

    static final Class<IndexOutOfBoundsException> INDEX = IndexOutOfBoundsException.class;
    static final Class<IllegalArgumentException> ARGUMENT = IllegalArgumentException.class;
    static final Class<IllegalStateException> STATE = IllegalStateException.class;
    static final Class<UnsupportedOperationException> UNSUPPORTED = UnsupportedOperationException.class;
    static final Class<NoSuchElementException> ELEMENT = NoSuchElementException.class;
    static final Class<ArithmeticException> ARITHMETIC = ArithmeticException.class;

    interface Call {
        Object answer();
    }

    /** Makes a works, the same each time, for which some calls of its 512 are left. */
    interface Setup {
        CubefoldWorks works();
    }

    interface Use {
        Object on(CubefoldWorks works);
    }

    private final int[] checks = new int[PROMISES + 1];
    private final Map<String, Integer> sentences = new TreeMap<>();
    private int promise;
    private String sentence;
    private int wrong;

    Check() {
        for (int number = 0; number <= PROMISES; number++) {
            for (String text : Sentences.OF[number]) {
                sentences.put(number + ": " + text, 0);
            }
        }
    }

    /** Runs one part of the tests; what it throws while it sets up its works fails, and the other parts still run. */
    void part(String name, Consumer<Check> tests) {
        try {
            tests.accept(this);
        } catch (RuntimeException e) {
            wrong++;
            System.out.println(name + " was cut short at promise " + (sentence == null ? promise : sentence));
            e.printStackTrace(System.out);
        }
    }

    /** The checks that follow are of this promise; 0 is for what no single promise says. */
    void promise(int number) {
        promise = number;
        sentence = null;
    }

    /** The checks that follow are of this sentence, one of those that Sentences lists. */
    void sentence(int number, String text) {
        promise = number;
        sentence = number + ": " + text;
        if (!sentences.containsKey(sentence)) {
            wrong++;
            System.out.println("no such sentence: " + sentence);
        }
    }

    void due(String what, Object want, Call call) {
        checks[promise]++;
        if (sentence != null) {
            sentences.merge(sentence, 1, Integer::sum);
        }
        Object got = outcome(call);
        if (!Objects.equals(want, got)) {
            wrong++;
            System.out.println("promise " + (sentence == null ? promise : sentence) + ": " + what + " answered " + got
                    + ", due is " + want);
        }
    }

    /**
     * The call throws exactly this exception, and changes no sum over the works. This looks with four calls, so that a
     * works can be asked many times within its 512 calls; refuses looks at all.
     */
    void refused(String what, Class<? extends RuntimeException> want, CubefoldWorks works, Call call) {
        String before = works.checksum() + " " + works.earned();
        due(what, want, call);
        due(what + " changed nothing", before, () -> works.checksum() + " " + works.earned());
    }

    /** The call throws exactly this exception, and no later call can tell that it was made. */
    void refuses(String what, Class<? extends RuntimeException> want, Setup setup, Use call) {
        due(what, want, () -> call.on(setup.works()));
        leavesNoTrace(what, setup, call);
    }

    /** Two works that are made alike answer alike to their end, whether the call was made on one of them or not. */
    void leavesNoTrace(String what, Setup setup, Use call) {
        for (Tale tale : Tale.values()) {
            CubefoldWorks called = setup.works();
            outcome(() -> call.on(called));
            due(what + " changed nothing that " + tale + " tells", tale.of(setup.works()), () -> tale.of(called));
        }
    }

    /** What a call answers, or the class of what it throws. */
    static Object outcome(Call call) {
        try {
            return call.answer();
        } catch (RuntimeException e) {
            return e.getClass();
        }
    }

    /** Ends the program with exit code 1 if a check failed, or a promise or a sentence has none. */
    void end() {
        int made = 0;
        for (int number = 0; number <= PROMISES; number++) {
            made += checks[number];
            if (number > 0 && checks[number] == 0) {
                wrong++;
                System.out.println("promise " + number + " has no check");
            }
        }
        for (Map.Entry<String, Integer> entry : sentences.entrySet()) {
            if (entry.getValue() == 0) {
                wrong++;
                System.out.println("no check of promise " + entry.getKey());
            }
        }
        System.out.println(made + " checks, " + sentences.size() + " sentences, " + wrong + " wrong");
        if (wrong != 0) {
            System.exit(1);
        }
    }
}
