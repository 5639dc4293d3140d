import java.util.NoSuchElementException;

/** All that can be found out about a desk, as one text. */
final class Sight {
    private Sight() {
    }

    /** Empties the sequence and hands the permits back, because only so can they be seen. */
    static String usingUp(Switchlog desk) {
        StringBuilder text = new StringBuilder();
        text.append("held ").append(desk.held()).append(" live ").append(desk.live());
        text.append(" loaded ").append(desk.loaded()).append(" earthed ").append(desk.earthed());
        text.append(" parts ").append(desk.parts()).append(" check ").append(desk.check());
        text.append(" log");
        int log = desk.log();
        for (int i = 0; i < log; i++) {
            text.append(' ').append(desk.logged(i));
        }
        addNodes(text, desk, desk.nodes());
        addSwitches(text, desk, desk.switches());
        text.append(" sequence ").append(desk.erase()).append(" permits");
        for (int i = 0; i < 10; i++) {
            int permit = i;
            text.append(' ').append(Expect.outcome(() -> desk.handBack(permit)));
        }
        return text.toString();
    }

    private static void addNodes(StringBuilder text, Switchlog desk, int nodes) {
        for (int node = 0; node < nodes; node++) {
            text.append(" node ").append(desk.part(node)).append(' ').append(toLive(desk, node));
            for (int kind = 2; kind < 6; kind++) {
                text.append(' ').append(desk.reason(kind, node)).append(' ').append(desk.times(kind, node));
            }
        }
    }

    private static String toLive(Switchlog desk, int node) {
        try {
            return String.valueOf(desk.toLive(node));
        } catch (NoSuchElementException e) {
            return "never";
        }
    }

    private static void addSwitches(StringBuilder text, Switchlog desk, int switches) {
        for (int which = 0; which < switches; which++) {
            text.append(" switch ").append(desk.isClosed(which));
            for (int kind = 0; kind < 2; kind++) {
                text.append(' ').append(desk.reason(kind, which)).append(' ').append(desk.times(kind, which));
            }
        }
    }
}
