import java.util.Arrays;
import java.util.function.Supplier;

/** All promises: long runs of mixed calls, each answered as the plain Model answers it. */
public final class ModelTest {
    private static final int RUNS = 3000;
    private static final int CALLS = 512;

    private static final Expect expect = new Expect("ModelTest");

    /** What the runs have met, so that a run that meets too little is seen: reasons, by kind. */
    private static final int[][] met = new int[6][5];

    private long seed;
    private final Switchlog desk = new Switchlog();
    private final Model model = new Model();
    private final StringBuilder told = new StringBuilder();
    private final int size;
    private final int breakers;

    private ModelTest(int run) {
        seed = 77_003L * run + 11;
        size = 2 + below(15);
        breakers = below(5);
    }

    public static void main(String[] args) {
        for (int run = 0; run < RUNS; run++) {
            new ModelTest(run).go(run);
        }
        for (int kind = 0; kind < 6; kind++) {
            expect.due("kind " + kind + " is met done", true, met[kind][0] > 1000);
            expect.due("kind " + kind + " is met as so already", true, met[kind][1] > 1000);
            expect.due("kind " + kind + " is met as touching held", true, kind == 5 || met[kind][2] > 1000);
            boolean withoutInterlock = kind == 3 || kind == 5;
            expect.due("kind " + kind + " is met as interlocked", true, withoutInterlock || met[kind][3] > 100);
            expect.due("kind " + kind + " is met as endangering", true, kind != 0 && kind != 3 || met[kind][4] > 100);
        }
        expect.end();
        System.out.println("ModelTest met " + Arrays.deepToString(met));
    }

    private void go(int run) {
        for (int i = 0; i < CALLS; i++) {
            int growth = i < 3 * size ? 60 : 2;
            if (!(below(100) < growth ? build() : call())) {
                System.out.println("run " + run + ": " + told);
                return;
            }
        }
    }

    /** A generator of its own, so that every run of this test makes the same calls. */
    private int below(int bound) {
        seed = seed * 6364136223846793005L + 1442695040888963407L;
        return (int) ((seed >>> 33) % bound);
    }

    private boolean yes() {
        return below(2) == 0;
    }

    private int number(int bound) {
        int odd = below(60);
        if (odd == 0) {
            return -1;
        }
        return odd == 1 || bound == 0 ? bound : below(bound);
    }

    private int kind() {
        return below(80) == 0 ? below(3) * 7 - 1 : below(6);
    }

    private int what(int kind) {
        return number(kind < 2 ? model.switches() : model.nodes());
    }

    private boolean same(String call, Supplier<Object> real, Supplier<Object> due) {
        told.append(call).append("; ");
        String want = Expect.outcome(due);
        String got = Expect.outcome(real);
        expect.due(call, want, got);
        return want.equals(got);
    }

    private boolean build() {
        if (model.nodes() < 2 || below(100) < 40 && model.nodes() < size || below(100) < 3) {
            boolean source = below(3) == 0;
            boolean load = below(3) == 0;
            return same("addNode(" + source + ", " + load + ")",
                    () -> desk.addNode(source, load), () -> model.addNode(source, load));
        }
        int one = number(model.nodes());
        int other = number(model.nodes());
        boolean breaker = below(4) < breakers;
        return same("addSwitch(" + one + ", " + other + ", " + breaker + ")",
                () -> desk.addSwitch(one, other, breaker), () -> model.addSwitch(one, other, breaker));
    }

    private boolean call() {
        int pick = below(100);
        if (pick < 45) {
            return act();
        }
        if (pick < 60) {
            return sequence(below(14));
        }
        if (pick < 70) {
            return permit();
        }
        return ask(below(14));
    }

    private boolean act() {
        int kind = kind();
        int what = what(kind);
        String told = "(" + kind + ", " + what + ")";
        if (yes()) {
            count(kind, what);
        }
        if (below(12) == 0) {
            return same("takeBack()", () -> desk.takeBack(), () -> model.takeBack());
        }
        return same("act" + told, () -> desk.act(kind, what), () -> model.act(kind, what));
    }

    private void count(int kind, int what) {
        String why = Expect.outcome(() -> model.reason(kind, what));
        if (why.length() == 1) {
            met[kind][why.charAt(0) - '0']++;
        }
    }

    private boolean sequence(int pick) {
        if (pick == 0) {
            return same("erase()", () -> desk.erase(), () -> model.erase());
        }
        if (pick == 1) {
            return same("writeBack()", () -> desk.writeBack(), () -> model.writeBack());
        }
        if (pick < 4) {
            int acts = below(5) == 0 ? below(33) - 1 : 1 + below(6);
            return same("carryOut(" + acts + ")", () -> desk.carryOut(acts), () -> model.carryOut(acts));
        }
        if (pick < 7) {
            return same("check()", () -> desk.check(), () -> model.check());
        }
        int kind = kind();
        int what = what(kind);
        return same("write(" + kind + ", " + what + ")", () -> desk.write(kind, what), () -> model.write(kind, what));
    }

    private boolean permit() {
        if (yes()) {
            int permit = number(10);
            return same("handBack(" + permit + ")", () -> desk.handBack(permit), () -> model.handBack(permit));
        }
        int nodes = below(20) == 0 ? below(1 << 18) - 5 : model.earthed() & below(1 << 16) & below(1 << 16);
        return same("permit(" + nodes + ")", () -> desk.permit(nodes), () -> model.permit(nodes));
    }

    private boolean ask(int pick) {
        int kind = kind();
        int what = what(kind);
        int node = number(model.nodes());
        int which = number(model.switches());
        int index = number(model.log());
        return switch (pick) {
            case 0 -> same("nodes()", () -> desk.nodes(), () -> model.nodes());
            case 1 -> same("switches()", () -> desk.switches(), () -> model.switches());
            case 2 -> same("reason(" + kind + ", " + what + ")",
                    () -> desk.reason(kind, what), () -> model.reason(kind, what));
            case 3 -> same("log()", () -> desk.log(), () -> model.log());
            case 4 -> same("logged(" + index + ")", () -> desk.logged(index), () -> model.logged(index));
            case 5 -> same("times(" + kind + ", " + what + ")",
                    () -> desk.times(kind, what), () -> model.times(kind, what));
            case 6 -> same("held()", () -> desk.held(), () -> model.held());
            case 7 -> same("isClosed(" + which + ")", () -> desk.isClosed(which), () -> model.isClosed(which));
            case 8 -> same("live()", () -> desk.live(), () -> model.live());
            case 9 -> same("loaded()", () -> desk.loaded(), () -> model.loaded());
            case 10 -> same("earthed()", () -> desk.earthed(), () -> model.earthed());
            case 11 -> same("part(" + node + ")", () -> desk.part(node), () -> model.part(node));
            case 12 -> same("parts()", () -> desk.parts(), () -> model.parts());
            default -> same("toLive(" + node + ")", () -> desk.toLive(node), () -> model.toLive(node));
        };
    }
}
