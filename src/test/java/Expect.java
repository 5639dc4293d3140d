import java.util.Objects;
import java.util.function.Function;
import java.util.function.Supplier;

/** Counts the answers of a test's calls, and prints each one that is not due. */
final class Expect {
    private final String name;
    private int right;
    private int wrong;

    Expect(String name) {
        this.name = name;
    }

    void due(String call, Object want, Object got) {
        if (Objects.equals(want, got)) {
            right++;
        } else {
            wrong++;
            System.out.println(name + ": " + call + " answered " + got + ", due is " + want);
        }
    }

    /** What reason tells ahead, act does: an act that is done alone is added to the log. */
    void act(Switchlog desk, int kind, int what, int want) {
        int log = desk.log();
        String call = "(" + kind + ", " + what + ") after " + log + " acts, live " + desk.live()
                + ", loaded " + desk.loaded() + ", earthed " + desk.earthed() + ", held " + desk.held();
        due("reason" + call, want, desk.reason(kind, what));
        due("act" + call, want, desk.act(kind, what));
        due("log() after act" + call, want == 0 ? log + 1 : log, desk.log());
    }

    void refused(Supplier<Switchlog> made, String call, Class<? extends RuntimeException> want,
            Function<Switchlog, Object> asked) {
        unchanged(made, call, thrown(want), asked);
    }

    /** Takes a recipe for desks, because what can be seen of a desk takes more than one of them. */
    void unchanged(Supplier<Switchlog> made, String call, String want, Function<Switchlog, Object> asked) {
        due(call, want, outcome(() -> asked.apply(made.get())));
        due("what is seen after " + call, Sight.of(made), Sight.of(() -> having(asked, made.get())));
    }

    private static Switchlog having(Function<Switchlog, Object> asked, Switchlog desk) {
        outcome(() -> asked.apply(desk));
        return desk;
    }

    static String outcome(Supplier<Object> answer) {
        try {
            return String.valueOf(answer.get());
        } catch (RuntimeException e) {
            return thrown(e.getClass());
        }
    }

    /** The very class of the exception counts, because the machine's own are subclasses. */
    static String thrown(Class<? extends RuntimeException> type) {
        return "throws." + type.getSimpleName();
    }

    void end() {
        System.out.println(name + ": " + right + " answers as due, " + wrong + " not");
        if (wrong != 0 || right == 0) {
            System.exit(1);
        }
    }
}
