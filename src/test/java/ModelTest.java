import java.util.Map;
import java.util.TreeMap;
import java.util.function.Supplier;

/** All promises: long runs of mixed calls, each answered as the plain Model answers it. */
public final class ModelTest {
    private static final int RUNS = 3000;
    private static final int CALLS = 512;

    private static final Expect expect = new Expect("ModelTest");

    /** How often which answer was due, so that runs that meet too little are seen. */
    private static final Map<String, Integer> met = new TreeMap<>();
    private static final String[] TO_BE_MET = {
        "act 0: 0", "act 0: 1", "act 0: 2", "act 0: 3", "act 0: 4",
        "act 1: 0", "act 1: 1", "act 1: 2", "act 1: 3",
        "act 2: 0", "act 2: 1", "act 2: 2", "act 2: 3",
        "act 3: 0", "act 3: 1", "act 3: 2", "act 3: 4",
        "act 4: 0", "act 4: 1", "act 4: 2", "act 4: 3",
        "act 5: 0", "act 5: 1",
        "takeBack: 0", "takeBack: 2", "takeBack: 4", "takeBack: State",
        "addNode: State", "addSwitch: Index", "addSwitch: Argument", "addSwitch: State",
        "act: Argument", "act: Index", "act: State", "reason: Argument", "reason: Index",
        "logged: Index", "times: Argument", "times: Index",
        "write: Argument", "write: Index", "write: State", "carryOut: Argument", "carryOut: State",
        "permit: Argument", "permit: State", "handBack: Index", "handBack: State",
        "isClosed: Index", "part: Index", "toLive: Index", "toLive: NoSuchElement",
        "writeBack: 30", "erase: 30", "check: 30", "carryOut: 30", "log: 200", "permit: 9",
        "nodes: 16", "switches: 24", "parts: 1",
    };
    private static final int OFTEN = 20;

    private long seed;
    private final Switchlog desk = new Switchlog();
    private final Model model = new Model();
    private final StringBuilder told = new StringBuilder();
    private final int size;
    private final int breakers;
    /** An eager run mostly does what is allowed, so that its log and its sequence fill up. */
    private final boolean eager;

    private ModelTest(int run) {
        seed = 77_003L * run + 11;
        size = 2 + below(15);
        breakers = below(5);
        eager = below(3) == 0;
    }

    public static void main(String[] args) {
        for (int run = 0; run < RUNS; run++) {
            new ModelTest(run).go(run);
        }
        for (String answer : TO_BE_MET) {
            int times = met.getOrDefault(answer, 0);
            expect.due(answer + " is met " + times + " times, which is often", true, times >= OFTEN);
        }
        expect.end();
    }

    private void go(int run) {
        for (int i = 0; i < CALLS; i++) {
            int growth = i < 3 * size ? 60 : 2;
            if (!(below(100) < growth ? build() : call())) {
                System.out.println("run " + run + ": " + told);
                return;
            }
        }
    }

    /** A generator of its own, so that every run of this test makes the same calls. */
    private int below(int bound) {
        seed = seed * 6364136223846793005L + 1442695040888963407L;
        return (int) ((seed >>> 33) % bound);
    }

    private boolean yes() {
        return below(2) == 0;
    }

    private int number(int bound) {
        int odd = below(60);
        if (odd == 0) {
            return -1;
        }
        return odd == 1 || bound == 0 ? bound : below(bound);
    }

    private int kind() {
        return below(80) == 0 ? below(3) * 7 - 1 : below(6);
    }

    private int what(int kind) {
        return number(kind < 2 ? model.switches() : model.nodes());
    }

    private boolean same(String name, String arguments, Supplier<Object> real, Supplier<Object> due) {
        told.append(name).append(arguments).append("; ");
        String want = Expect.outcome(due);
        String got = Expect.outcome(real);
        expect.due(name + arguments, want, got);
        meet(name, want);
        return want.equals(got);
    }

    private static void meet(String name, String answer) {
        String brief = answer.replace("throws.", "").replaceAll("(OutOfBounds)?Exception|Illegal", "");
        met.merge(name + ": " + brief, 1, Integer::sum);
    }

    private boolean build() {
        if (model.nodes() < 2 || below(100) < 40 && model.nodes() < size || below(100) < 3) {
            boolean source = below(3) == 0;
            boolean load = below(3) == 0;
            return same("addNode", "(" + source + ", " + load + ")",
                    () -> desk.addNode(source, load), () -> model.addNode(source, load));
        }
        int one = number(model.nodes());
        int other = number(model.nodes());
        boolean breaker = below(4) < breakers;
        return same("addSwitch", "(" + one + ", " + other + ", " + breaker + ")",
                () -> desk.addSwitch(one, other, breaker), () -> model.addSwitch(one, other, breaker));
    }

    private boolean call() {
        int pick = below(100);
        if (pick < (eager ? 70 : 45)) {
            return below(eager ? 40 : 12) == 0 ? takeBack() : act();
        }
        if (pick < 80) {
            return sequence(below(14));
        }
        return pick < 88 ? permit() : ask(below(14));
    }

    private boolean takeBack() {
        return same("takeBack", "()", () -> desk.takeBack(), () -> model.takeBack());
    }

    private boolean act() {
        int firstKind = kind();
        int firstWhat = what(firstKind);
        for (int tries = eager ? 20 : 0; tries > 0 && !isAllowed(firstKind, firstWhat); tries--) {
            firstKind = below(6);
            firstWhat = what(firstKind);
        }
        int kind = firstKind;
        int what = firstWhat;
        String why = Expect.outcome(() -> model.reason(kind, what));
        meet("act " + kind, why);
        return same("act", "(" + kind + ", " + what + ")", () -> desk.act(kind, what), () -> model.act(kind, what));
    }

    private boolean isAllowed(int kind, int what) {
        return Expect.outcome(() -> model.reason(kind, what)).equals("0");
    }

    private boolean sequence(int pick) {
        if (pick == 0) {
            return same("erase", "()", () -> desk.erase(), () -> model.erase());
        }
        if (pick == 1) {
            return same("writeBack", "()", () -> desk.writeBack(), () -> model.writeBack());
        }
        if (pick < 4) {
            int acts = below(4) == 0 ? below(33) : eager ? 30 : 1 + below(6);
            return same("carryOut", "(" + acts + ")", () -> desk.carryOut(acts), () -> model.carryOut(acts));
        }
        if (pick < 7) {
            return same("check", "()", () -> desk.check(), () -> model.check());
        }
        int kind = kind();
        int what = what(kind);
        return same("write", "(" + kind + ", " + what + ")",
                () -> desk.write(kind, what), () -> model.write(kind, what));
    }

    private boolean permit() {
        if (yes()) {
            int permit = number(10);
            return same("handBack", "(" + permit + ")", () -> desk.handBack(permit), () -> model.handBack(permit));
        }
        int nodes = below(20) == 0 ? below(1 << 18) - 5 : model.earthed() & below(1 << 16) & below(1 << 16);
        return same("permit", "(" + nodes + ")", () -> desk.permit(nodes), () -> model.permit(nodes));
    }

    private boolean ask(int pick) {
        int kind = kind();
        int what = what(kind);
        int node = number(model.nodes());
        int which = number(model.switches());
        int index = number(model.log());
        String act = "(" + kind + ", " + what + ")";
        return switch (pick) {
            case 0 -> same("nodes", "()", () -> desk.nodes(), () -> model.nodes());
            case 1 -> same("switches", "()", () -> desk.switches(), () -> model.switches());
            case 2 -> same("reason", act, () -> desk.reason(kind, what), () -> model.reason(kind, what));
            case 3 -> same("log", "()", () -> desk.log(), () -> model.log());
            case 4 -> same("logged", "(" + index + ")", () -> desk.logged(index), () -> model.logged(index));
            case 5 -> same("times", act, () -> desk.times(kind, what), () -> model.times(kind, what));
            case 6 -> same("held", "()", () -> desk.held(), () -> model.held());
            case 7 -> same("isClosed", "(" + which + ")", () -> desk.isClosed(which), () -> model.isClosed(which));
            case 8 -> same("live", "()", () -> desk.live(), () -> model.live());
            case 9 -> same("loaded", "()", () -> desk.loaded(), () -> model.loaded());
            case 10 -> same("earthed", "()", () -> desk.earthed(), () -> model.earthed());
            case 11 -> same("part", "(" + node + ")", () -> desk.part(node), () -> model.part(node));
            case 12 -> same("parts", "()", () -> desk.parts(), () -> model.parts());
            default -> same("toLive", "(" + node + ")", () -> desk.toLive(node), () -> model.toLive(node));
        };
    }
}
