import java.util.ArrayDeque;
import java.util.HashSet;
import java.util.Queue;
import java.util.Set;

/**
 * "No act that is allowed makes an earthed part live or touches what is held by a permit": every act
 * in every state that allowed acts reach on small desks, each told as at Desks.made().
 */
public final class ReachTest {
    private static final Expect expect = new Expect("ReachTest");

    private final String[] switches;
    private final String nodes;
    private final String first;
    private final int[] permits;
    private final Set<String> seen = new HashSet<>();
    private final Queue<String> ways = new ArrayDeque<>();

    private ReachTest(String nodes, String switches, String first, int... permits) {
        this.nodes = nodes;
        this.switches = switches.split(" ");
        this.first = first;
        this.permits = permits;
    }

    public static void main(String[] args) {
        reach(100, new ReachTest("sl - s", "01d 12b 02b", ""));
        reach(100, new ReachTest("sl - s l", "01d 12d 23b", ""));
        reach(20, new ReachTest("s - l -", "01b 12d 13b", "11 21", 0b0100));
        reach(30, new ReachTest("s - - sl -", "01b 12b 23b 34d", "11 21", 0b0010));
        reach(30, new ReachTest("s - - s - l", "01b 12b 23b 34b 45d", "12 22 25", 0b001000, 0b100000));
        expect.end();
    }

    private static void reach(int least, ReachTest desks) {
        desks.go();
        int states = desks.seen.size();
        expect.due(states + " states of " + desks.nodes + " are reached, which are enough", true, states >= least);
    }

    private void go() {
        find("");
        while (!ways.isEmpty()) {
            String way = ways.remove();
            for (int kind = 0; kind < 6; kind++) {
                int bound = kind < 2 ? switches.length : nodes.split(" ").length;
                for (int what = 0; what < bound; what++) {
                    tryAct(way, kind, what);
                }
            }
        }
    }

    private Switchlog after(String way) {
        Switchlog desk = Desks.made(nodes, String.join(" ", switches), first);
        return Desks.after(Desks.withPermits(desk, permits), way);
    }

    private void find(String way) {
        if (seen.add(shown(after(way)))) {
            ways.add(way);
        }
    }

    private void tryAct(String way, int kind, int what) {
        Switchlog desk = after(way);
        String before = shown(desk);
        String call = "after " + way + " of " + String.join(" ", switches) + ", act(" + kind + ", " + what + ")";
        int why = desk.act(kind, what);
        if (why != 0) {
            expect.due(call + " is not done", before, shown(desk));
            return;
        }
        expect.due(call + ": live and earthed", 0, desk.live() & desk.earthed());
        expect.due(call + ": held and live", 0, desk.held() & desk.live());
        expect.due(call + ": held and not earthed", 0, desk.held() & ~desk.earthed());
        expect.due(call + ": held and touched", 0, desk.held() & touched(kind, what));
        find(way.isEmpty() ? "" + kind + what : way + " " + kind + what);
        expect.due(call + " taken back", 0, desk.takeBack());
        expect.due(call + " taken back, as it was", before, shown(desk));
    }

    private int touched(int kind, int what) {
        if (kind > 1) {
            return 1 << what;
        }
        return 1 << switches[what].charAt(0) - '0' | 1 << switches[what].charAt(1) - '0';
    }

    /** The reasons tell which earths and sources are on. */
    private String shown(Switchlog desk) {
        StringBuilder text = new StringBuilder();
        text.append(desk.live()).append(' ').append(desk.earthed()).append(' ').append(desk.loaded());
        for (int kind = 0; kind < 6; kind++) {
            int bound = kind < 2 ? switches.length : nodes.split(" ").length;
            for (int what = 0; what < bound; what++) {
                text.append(' ').append(desk.reason(kind, what));
            }
        }
        return text.toString();
    }
}
