import java.util.Objects;
import java.util.function.Function;
import java.util.function.Supplier;

/** Counts the answers of a test's calls, and prints each one that is not due. */
final class Expect {
    private final String name;
    private int right;
    private int wrong;

    Expect(String name) {
        this.name = name;
    }

    void due(String call, Object want, Object got) {
        if (Objects.equals(want, got)) {
            right++;
        } else {
            wrong++;
            System.out.println(name + ": " + call + " answered " + got + ", due is " + want);
        }
    }

    /** The very class of the exception counts, because the machine's own are subclasses. */
    void refused(Supplier<Switchlog> made, String call, Class<? extends RuntimeException> want,
            Function<Switchlog, Object> asked) {
        unchanged(made, call, "throws." + want.getSimpleName(), asked);
    }

    /** Takes desks made alike, because a desk answers for 512 calls alone and a look takes many. */
    void unchanged(Supplier<Switchlog> made, String call, String want, Function<Switchlog, Object> asked) {
        Switchlog desk = made.get();
        due(call, want, outcome(() -> asked.apply(desk)));
        due("what is seen after " + call, Sight.usingUp(made.get()), Sight.usingUp(desk));
    }

    static String outcome(Supplier<Object> answer) {
        try {
            return String.valueOf(answer.get());
        } catch (RuntimeException e) {
            return "throws." + e.getClass().getSimpleName();
        }
    }

    void end() {
        System.out.println(name + ": " + right + " answers as due, " + wrong + " not");
        if (wrong != 0 || right == 0) {
            System.exit(1);
        }
    }
}
