import java.util.Objects;

/** Counts the answers of a test's calls, and prints each one that is not due. */
final class Expect {
    interface Answer {
        Object get();
    }

    private final String name;
    private int right;
    private int wrong;

    Expect(String name) {
        this.name = name;
    }

    void due(String call, Object want, Object got) {
        if (Objects.equals(want, got)) {
            right++;
        } else {
            wrong++;
            System.out.println(name + ": " + call + " answered " + got + ", due is " + want);
        }
    }

    /** The very class of the exception counts, because the machine's own are subclasses. */
    void refused(Switchlog desk, String call, Class<? extends RuntimeException> want, Answer answer) {
        String before = Sight.of(desk);
        due(call, "throws." + want.getSimpleName(), outcome(answer));
        due("what is seen after " + call, before, Sight.of(desk));
    }

    static String outcome(Answer answer) {
        try {
            return String.valueOf(answer.get());
        } catch (RuntimeException e) {
            return "throws." + e.getClass().getSimpleName();
        }
    }

    void end() {
        System.out.println(name + ": " + right + " answers as due, " + wrong + " not");
        if (wrong != 0 || right == 0) {
            System.exit(1);
        }
    }
}
