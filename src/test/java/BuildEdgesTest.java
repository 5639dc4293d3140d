import java.util.function.Supplier;

/** The edges that the document names in 'Terms' for nodes and switches, and in promises 1 to 5. */
public final class BuildEdgesTest {
    private static final Expect expect = new Expect("BuildEdgesTest");
    private static final boolean[] EITHER = {true, false};

    public static void main(String[] args) {
        aNewDeskHasNoNodes();
        aNewDeskRefusesEveryNumber();
        nodesAreNumberedFromZero();
        addNodeWithSixteenNodes();
        aSourceIsOffAtFirst();
        anEarthIsOffAtFirst();
        aLoadIsThereOrNot();
        switchesAreNumberedFromZero();
        addSwitchWithoutSuchANode();
        addSwitchWithBothNodesTheSame();
        addSwitchWithTwentyFourSwitches();
        addSwitchWithNoSuchNodeAndTheSame();
        addSwitchWithNoSuchNodeAndTwentyFour();
        addSwitchWithTheSameAndTwentyFour();
        aSwitchIsOpenAtFirst();
        aSwitchIsABreakerOrADisconnector();
        nodesCountsFromNoneToSixteen();
        switchesCountsFromNoneToTwentyFour();
        theLastOf512CallsIsAnswered();
        expect.end();
    }

    /** Promise 1: "Creates a desk without nodes." */
    private static void aNewDeskHasNoNodes() {
        Switchlog desk = new Switchlog();
        expect.due("nodes()", 0, desk.nodes());
        expect.due("switches()", 0, desk.switches());
        expect.due("log()", 0, desk.log());
        expect.due("held()", 0, desk.held());
        expect.due("live()", 0, desk.live());
        expect.due("loaded()", 0, desk.loaded());
        expect.due("earthed()", 0, desk.earthed());
        expect.due("parts()", 0, desk.parts());
        expect.due("check()", 0, desk.check());
        expect.due("carryOut(1)", 0, desk.carryOut(1));
        expect.due("carryOut(30)", 0, desk.carryOut(30));
        expect.due("writeBack()", 0, desk.writeBack());
        expect.due("erase()", 0, desk.erase());
    }

    /** Promise 1: "Creates a desk without nodes."; so the lowest numbers are too high. */
    private static void aNewDeskRefusesEveryNumber() {
        Supplier<Switchlog> made = () -> new Switchlog();
        expect.refused(made, "addSwitch(0, 1)", Desks.INDEX, desk -> desk.addSwitch(0, 1, true));
        for (int i = 0; i < 6; i++) {
            int kind = i;
            expect.refused(made, "act(" + kind + ", 0)", Desks.INDEX, desk -> desk.act(kind, 0));
            expect.refused(made, "reason(" + kind + ", 0)", Desks.INDEX, desk -> desk.reason(kind, 0));
            expect.refused(made, "times(" + kind + ", 0)", Desks.INDEX, desk -> desk.times(kind, 0));
            expect.refused(made, "write(" + kind + ", 0)", Desks.INDEX, desk -> desk.write(kind, 0));
        }
        expect.refused(made, "takeBack()", Desks.STATE, desk -> desk.takeBack());
        expect.refused(made, "logged(0)", Desks.INDEX, desk -> desk.logged(0));
        expect.refused(made, "permit(0)", Desks.ARGUMENT, desk -> desk.permit(0));
        expect.refused(made, "permit(1)", Desks.ARGUMENT, desk -> desk.permit(1));
        expect.refused(made, "handBack(0)", Desks.INDEX, desk -> desk.handBack(0));
        expect.refused(made, "isClosed(0)", Desks.INDEX, desk -> desk.isClosed(0));
        expect.refused(made, "part(0)", Desks.INDEX, desk -> desk.part(0));
        expect.refused(made, "toLive(0)", Desks.INDEX, desk -> desk.toLive(0));
    }

    /** Terms: "Nodes are numbered from 0"; promise 2: "Returns its number." */
    private static void nodesAreNumberedFromZero() {
        Switchlog desk = new Switchlog();
        for (int node = 0; node < 16; node++) {
            expect.due("addNode " + node, node, desk.addNode(node % 2 == 0, node % 3 == 0));
        }
    }

    /** Terms: "there are at most 16"; promise 2: "Throws IllegalStateException if there are 16 nodes". */
    private static void addNodeWithSixteenNodes() {
        expect.due("addNode with 14 nodes", 14, Desks.bare(14).addNode(true, true));
        expect.due("addNode with 15 nodes", 15, Desks.bare(15).addNode(true, true));
        for (boolean source : EITHER) {
            for (boolean load : EITHER) {
                expect.refused(() -> Desks.bare(16), "addNode with 16 nodes", Desks.STATE,
                        desk -> desk.addNode(source, load));
            }
        }
        Switchlog desk = Desks.bare(15);
        desk.addNode(true, true);
        String full = Expect.thrown(Desks.STATE);
        expect.due("addNode with 16 nodes", full, Expect.outcome(() -> desk.addNode(false, false)));
        expect.due("addNode once more", full, Expect.outcome(() -> desk.addNode(true, true)));
        expect.due("nodes()", 16, desk.nodes());
        expect.due("part(16)", Expect.thrown(Desks.INDEX), Expect.outcome(() -> desk.part(16)));
        expect.due("addSwitch(15, 0)", 0, desk.addSwitch(15, 0, true));
        expect.due("act(4, 15)", 0, desk.act(4, 15));
        expect.due("live()", 1 << 15, desk.live());
        expect.due("loaded()", 1 << 15, desk.loaded());
    }

    /** Promise 2: "source: whether it has a source, which is off". */
    private static void aSourceIsOffAtFirst() {
        for (int before : new int[] {0, 15}) {
            Switchlog with = Desks.bare(before);
            with.addNode(true, false);
            expect.due("live() with a source at " + before, 0, with.live());
            expect.act(with, 5, before, 1);
            expect.act(with, 4, before, 0);
            Switchlog without = Desks.bare(before);
            without.addNode(false, true);
            expect.act(without, 5, before, 1);
            expect.act(without, 4, before, 1);
        }
    }

    /** Promise 2: "Adds a node, without an earth that is on." */
    private static void anEarthIsOffAtFirst() {
        for (int before : new int[] {0, 15}) {
            Switchlog desk = Desks.earthed(before);
            desk.addNode(false, false);
            expect.due("earthed() with " + before + " before", (1 << before) - 1, desk.earthed());
            expect.act(desk, 3, before, 1);
            expect.act(desk, 2, before, 0);
        }
    }

    /** Promise 2: "load: whether it has a load". */
    private static void aLoadIsThereOrNot() {
        for (int before : new int[] {0, 15}) {
            Switchlog desk = Desks.bare(before);
            desk.addNode(true, true);
            desk.act(4, before);
            expect.due("loaded() with a load at " + before, 1 << before, desk.loaded());
            Switchlog without = Desks.bare(before);
            without.addNode(true, false);
            without.act(4, before);
            expect.due("loaded() without a load at " + before, 0, without.loaded());
        }
    }

    /** Terms: "Switches are numbered from 0"; promise 3: "Returns its number." */
    private static void switchesAreNumberedFromZero() {
        Switchlog desk = Desks.bare(3);
        for (int which = 0; which < 24; which++) {
            expect.due("addSwitch " + which, which,
                    desk.addSwitch(which % 3, (which + 1) % 3, which % 2 == 0));
        }
        desk.act(1, 23);
        expect.due("part(0) with switch 23 closed", 0b101, desk.part(0));
        desk.act(1, 0);
        expect.due("part(0) with switch 0 closed too", 0b111, desk.part(0));
    }

    private static void refuseSwitch(int nodes, int switches, int one, int other,
            Class<? extends RuntimeException> want) {
        for (boolean breaker : EITHER) {
            expect.refused(() -> Desks.joined(nodes, switches),
                    "addSwitch(" + one + ", " + other + ") of " + nodes + " nodes, " + switches + " switches",
                    want, desk -> desk.addSwitch(one, other, breaker));
        }
    }

    /** Promise 3: "Throws IndexOutOfBoundsException if there is no such node". */
    private static void addSwitchWithoutSuchANode() {
        for (int nodes : new int[] {1, 2, 15, 16}) {
            for (int none : new int[] {-1, nodes, nodes + 1}) {
                refuseSwitch(nodes, 0, none, 0, Desks.INDEX);
                refuseSwitch(nodes, 0, 0, none, Desks.INDEX);
            }
        }
        for (int none : Desks.WRAPPED) {
            refuseSwitch(2, 1, none, 1, Desks.INDEX);
            refuseSwitch(2, 1, 0, none, Desks.INDEX);
        }
        for (int nodes : new int[] {2, 15, 16}) {
            expect.due("addSwitch(0, last)", 0, Desks.bare(nodes).addSwitch(0, nodes - 1, true));
            expect.due("addSwitch(last, 0)", 0, Desks.bare(nodes).addSwitch(nodes - 1, 0, false));
        }
    }

    /** Promise 3: "Throws IllegalArgumentException if both nodes are the same". */
    private static void addSwitchWithBothNodesTheSame() {
        refuseSwitch(1, 0, 0, 0, Desks.ARGUMENT);
        for (int node : new int[] {0, 1, 7, 14, 15}) {
            refuseSwitch(16, 3, node, node, Desks.ARGUMENT);
            int beside = node == 15 ? 14 : node + 1;
            expect.due("addSwitch to the one beside " + node, 0, Desks.bare(16).addSwitch(node, beside, true));
            expect.due("addSwitch from the one beside " + node, 0, Desks.bare(16).addSwitch(beside, node, true));
        }
    }

    /** Terms: "there are at most 24"; promise 3: "Throws IllegalStateException if there are 24 switches". */
    private static void addSwitchWithTwentyFourSwitches() {
        expect.due("addSwitch with 22 switches", 22, Desks.joined(2, 22).addSwitch(0, 1, true));
        expect.due("addSwitch with 23 switches", 23, Desks.joined(2, 23).addSwitch(1, 0, false));
        refuseSwitch(2, 24, 0, 1, Desks.STATE);
        refuseSwitch(2, 24, 1, 0, Desks.STATE);
        refuseSwitch(16, 24, 14, 15, Desks.STATE);
        Switchlog desk = Desks.joined(3, 24);
        String full = Expect.thrown(Desks.STATE);
        expect.due("addSwitch with 24 switches", full, Expect.outcome(() -> desk.addSwitch(1, 2, true)));
        expect.due("addSwitch once more", full, Expect.outcome(() -> desk.addSwitch(1, 2, false)));
        expect.due("switches()", 24, desk.switches());
        expect.due("isClosed(24)", Expect.thrown(Desks.INDEX), Expect.outcome(() -> desk.isClosed(24)));
        expect.due("act(1, 23)", 0, desk.act(1, 23));
        expect.due("part(0)", 0b011, desk.part(0));
    }

    /** Terms: "If several exceptions apply, the one that is documented first is thrown." */
    private static void addSwitchWithNoSuchNodeAndTheSame() {
        for (int none : new int[] {-1, 2, 16, 32, Integer.MIN_VALUE, Integer.MAX_VALUE}) {
            refuseSwitch(2, 0, none, none, Desks.INDEX);
            refuseSwitch(2, 24, none, none, Desks.INDEX);
        }
    }

    /** Terms: "If several exceptions apply, the one that is documented first is thrown." */
    private static void addSwitchWithNoSuchNodeAndTwentyFour() {
        for (int none : new int[] {-1, 2}) {
            refuseSwitch(2, 24, none, 0, Desks.INDEX);
            refuseSwitch(2, 24, 1, none, Desks.INDEX);
        }
    }

    /** Terms: "If several exceptions apply, the one that is documented first is thrown." */
    private static void addSwitchWithTheSameAndTwentyFour() {
        refuseSwitch(2, 23, 1, 1, Desks.ARGUMENT);
        refuseSwitch(2, 24, 0, 0, Desks.ARGUMENT);
        refuseSwitch(2, 24, 1, 1, Desks.ARGUMENT);
    }

    /** Terms: "it is closed or open, at first open"; promise 3: "Adds a switch, which is open." */
    private static void aSwitchIsOpenAtFirst() {
        for (boolean breaker : EITHER) {
            for (int before : new int[] {0, 23}) {
                Switchlog desk = Desks.joined(2, before);
                for (int which = 0; which < before; which++) {
                    desk.act(1, which);
                }
                desk.addSwitch(0, 1, breaker);
                expect.due("isClosed(" + before + ")", false, desk.isClosed(before));
                expect.due("parts()", before == 0 ? 2 : 1, desk.parts());
                expect.act(desk, 0, before, 1);
                expect.act(desk, 1, before, 0);
                expect.due("isClosed(" + before + ")", true, desk.isClosed(before));
            }
        }
    }

    /** Promise 3: "breaker: whether it is a breaker; otherwise it is a disconnector". */
    private static void aSwitchIsABreakerOrADisconnector() {
        for (boolean breaker : EITHER) {
            for (int before : new int[] {0, 23}) {
                Switchlog desk = new Switchlog();
                desk.addNode(true, false);
                desk.addNode(false, true);
                for (int which = 0; which < before; which++) {
                    desk.addSwitch(0, 1, !breaker);
                }
                desk.addSwitch(0, 1, breaker);
                desk.act(4, 0);
                expect.act(desk, 1, before, breaker ? 0 : 3);
            }
        }
    }

    /** Promise 4: "Returns the number of nodes." */
    private static void nodesCountsFromNoneToSixteen() {
        for (int nodes = 0; nodes <= 16; nodes++) {
            expect.due("nodes() of " + nodes, nodes, Desks.bare(nodes).nodes());
            expect.due("switches() of " + nodes + " nodes", 0, Desks.bare(nodes).switches());
        }
    }

    /** Promise 5: "Returns the number of switches." */
    private static void switchesCountsFromNoneToTwentyFour() {
        for (int switches = 0; switches <= 24; switches++) {
            expect.due("switches() of " + switches, switches, Desks.joined(2, switches).switches());
            expect.due("nodes() of " + switches + " switches", 2, Desks.joined(2, switches).nodes());
        }
    }

    /** "An object is used for at most 512 calls after it has been made". */
    private static void theLastOf512CallsIsAnswered() {
        Switchlog desk = new Switchlog();
        desk.addNode(true, true);
        for (int call = 2; call <= 510; call++) {
            expect.due("call " + call, 0, call % 2 == 0 ? desk.act(4, 0) : desk.takeBack());
        }
        expect.due("call 511", 1, desk.log());
        expect.due("call 512", 1, desk.live());
    }
}
