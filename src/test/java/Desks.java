/** Desks that several tests start from, and names for what they expect there. */
final class Desks {
    static final int EARTH_ON = 2;
    static final int EARTH_OFF = 3;

    static final Class<IllegalArgumentException> ARGUMENT = IllegalArgumentException.class;
    static final Class<IndexOutOfBoundsException> INDEX = IndexOutOfBoundsException.class;
    static final Class<IllegalStateException> STATE = IllegalStateException.class;

    /** Numbers that a shift, a sum or a product could turn into one that there is. */
    static final int[] WRAPPED = {-64, -32, 32, 64, 1 << 16, 1 << 30, -(1 << 30), Integer.MIN_VALUE, Integer.MAX_VALUE};

    private Desks() {
    }

    /**
     * "s l sl -" are nodes with a source, a load, both, neither; "01b 12d" are a breaker from node 0
     * to node 1 and a disconnector from node 1 to node 2; acts are told as at after().
     */
    static Switchlog made(String nodes, String switches, String acts) {
        Switchlog desk = new Switchlog();
        for (String node : each(nodes)) {
            desk.addNode(node.contains("s"), node.contains("l"));
        }
        for (String which : each(switches)) {
            desk.addSwitch(which.charAt(0) - '0', which.charAt(1) - '0', which.charAt(2) == 'b');
        }
        return after(desk, acts);
    }

    /** Nodes without source and load. */
    static Switchlog bare(int nodes) {
        Switchlog desk = new Switchlog();
        for (int i = 0; i < nodes; i++) {
            desk.addNode(false, false);
        }
        return desk;
    }

    /** Node 0 has a source, node 1 nothing, node 2 a load; switch 0 joins 0 and 1, switch 1 joins 1 and 2. */
    static Switchlog feeder(boolean first, boolean second) {
        Switchlog desk = new Switchlog();
        desk.addNode(true, false);
        desk.addNode(false, false);
        desk.addNode(false, true);
        desk.addSwitch(0, 1, first);
        desk.addSwitch(1, 2, second);
        return desk;
    }

    /** So many breakers between the nodes 0 and 1. */
    static Switchlog joined(int nodes, int switches) {
        Switchlog desk = bare(nodes);
        for (int i = 0; i < switches; i++) {
            desk.addSwitch(0, 1, true);
        }
        return desk;
    }

    /** Nodes whose earths are all on. */
    static Switchlog earthed(int nodes) {
        Switchlog desk = bare(nodes);
        for (int node = 0; node < nodes; node++) {
            desk.act(EARTH_ON, node);
        }
        return desk;
    }

    /** One node whose earth was switched on and off until the log has so many acts. */
    static Switchlog withLog(int acts) {
        Switchlog desk = bare(1);
        for (int i = 0; i < acts; i++) {
            desk.act(i % 2 == 0 ? EARTH_ON : EARTH_OFF, 0);
        }
        return desk;
    }

    /** Does acts that the test takes as given: "41 10" is act(4, 1), act(1, 0). */
    static Switchlog after(Switchlog desk, String acts) {
        for (String act : each(acts)) {
            int code = Integer.parseInt(act);
            int why = desk.act(code / 10, code % 10);
            if (why != 0) {
                throw new AssertionError("act " + act + " of " + acts + " is not done: " + why);
            }
        }
        return desk;
    }

    static Switchlog withPermits(Switchlog desk, int... permits) {
        for (int nodes : permits) {
            desk.permit(nodes);
        }
        return desk;
    }

    /** Writes acts, told as at after(). */
    static Switchlog written(Switchlog desk, String acts) {
        for (String act : each(acts)) {
            int code = Integer.parseInt(act);
            desk.write(code / 10, code % 10);
        }
        return desk;
    }

    private static String[] each(String acts) {
        return acts.isEmpty() ? new String[0] : acts.split(" ");
    }
}
