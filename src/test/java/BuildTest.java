/** Promises 1 to 5: what is built. */
public final class BuildTest {
    private static final Expect expect = new Expect("BuildTest");

    public static void main(String[] args) {
        aNewDeskIsEmpty();
        desksDoNotShareAnything();
        addNodeNumbersSixteen();
        addNodeKeepsSourceAndLoadApart();
        addNodeLeavesTheRestAlone();
        addSwitchNumbersTwentyFour();
        addSwitchRefusesInOrder();
        addSwitchIsOpenAtFirst();
        addSwitchKeepsWhatItIs();
        expect.end();
    }

    private static void aNewDeskIsEmpty() {
        Switchlog desk = new Switchlog();
        expect.due("nodes()", 0, desk.nodes());
        expect.due("switches()", 0, desk.switches());
        expect.due("log()", 0, desk.log());
        expect.due("held()", 0, desk.held());
        expect.due("live()", 0, desk.live());
        expect.due("loaded()", 0, desk.loaded());
        expect.due("earthed()", 0, desk.earthed());
        expect.due("parts()", 0, desk.parts());
        expect.due("check()", 0, desk.check());
        expect.due("carryOut(30)", 0, desk.carryOut(30));
        expect.due("writeBack()", 0, desk.writeBack());
        expect.due("erase()", 0, desk.erase());
    }

    private static Switchlog worked() {
        return Desks.withPermits(Desks.written(Desks.withLog(3), "30"), 1);
    }

    private static void desksDoNotShareAnything() {
        Switchlog one = worked();
        Switchlog other = new Switchlog();
        expect.due("nodes() of another desk", 0, other.nodes());
        other.addNode(true, true);
        other.act(4, 0);
        expect.due("what is seen of the first desk", Sight.usingUp(worked()), Sight.usingUp(one));
    }

    private static void addNodeNumbersSixteen() {
        Switchlog desk = new Switchlog();
        for (int i = 0; i < 16; i++) {
            expect.due("addNode " + i, i, desk.addNode(i % 2 == 0, i % 3 == 0));
            expect.due("nodes()", i + 1, desk.nodes());
        }
        expect.refused(() -> Desks.bare(16), "a 17th addNode", Desks.STATE, x -> x.addNode(true, true));
        expect.due("a 17th addNode", "throws.IllegalStateException", Expect.outcome(() -> desk.addNode(true, true)));
        expect.due("act(4, 14)", 0, desk.act(4, 14));
        expect.due("live()", 1 << 14, desk.live());
        expect.due("part(15)", 1 << 15, desk.part(15));
        expect.due("parts()", 16, desk.parts());
    }

    private static void addNodeKeepsSourceAndLoadApart() {
        Switchlog desk = new Switchlog();
        desk.addNode(false, false);
        desk.addNode(false, true);
        desk.addNode(true, false);
        desk.addNode(true, true);
        expect.due("earthed() at first", 0, desk.earthed());
        expect.due("live() at first", 0, desk.live());
        expect.due("act(4, 0) without a source", 1, desk.act(4, 0));
        expect.due("act(4, 1) without a source", 1, desk.act(4, 1));
        expect.due("act(4, 2)", 0, desk.act(4, 2));
        expect.due("act(4, 3)", 0, desk.act(4, 3));
        expect.due("live()", 0b1100, desk.live());
        expect.due("loaded()", 0b1000, desk.loaded());
    }

    private static void addNodeLeavesTheRestAlone() {
        Switchlog desk = Desks.after(Desks.feeder(true, true), "40 10 22");
        expect.due("addNode", 3, desk.addNode(true, true));
        expect.due("live()", 0b0011, desk.live());
        expect.due("earthed()", 0b0100, desk.earthed());
        expect.due("part(3)", 0b1000, desk.part(3));
        expect.due("log()", 3, desk.log());
        expect.due("act(4, 3)", 0, desk.act(4, 3));
    }

    private static void addSwitchNumbersTwentyFour() {
        Switchlog desk = Desks.bare(3);
        for (int i = 0; i < 24; i++) {
            expect.due("addSwitch " + i, i, desk.addSwitch(i % 3, (i + 1) % 3, i % 2 == 0));
            expect.due("switches()", i + 1, desk.switches());
        }
        expect.due("a 25th", "throws.IllegalStateException", Expect.outcome(() -> desk.addSwitch(0, 1, true)));
        expect.due("act(1, 23)", 0, desk.act(1, 23));
        expect.due("isClosed(23)", true, desk.isClosed(23));
        expect.due("part(0)", 0b101, desk.part(0));
        expect.due("isClosed(22)", false, desk.isClosed(22));
    }

    private static void refuse(int switches, int one, int other, Class<? extends RuntimeException> want) {
        for (boolean breaker : new boolean[] {true, false}) {
            expect.refused(() -> Desks.joined(switches), "addSwitch(" + one + ", " + other + ") of " + switches,
                    want, desk -> desk.addSwitch(one, other, breaker));
        }
    }

    private static void addSwitchRefusesInOrder() {
        expect.refused(() -> new Switchlog(), "addSwitch(0, 0) without nodes", Desks.INDEX,
                desk -> desk.addSwitch(0, 0, true));
        for (int switches : new int[] {0, 1, 24}) {
            for (int none : new int[] {-1, 2, 3, 16, 32, Integer.MIN_VALUE, Integer.MAX_VALUE}) {
                refuse(switches, none, 1, Desks.INDEX);
                refuse(switches, 0, none, Desks.INDEX);
                refuse(switches, none, none, Desks.INDEX);
            }
            refuse(switches, 0, 0, Desks.ARGUMENT);
            refuse(switches, 1, 1, Desks.ARGUMENT);
        }
        refuse(24, 0, 1, Desks.STATE);
        refuse(24, 1, 0, Desks.STATE);
    }

    private static void addSwitchIsOpenAtFirst() {
        Switchlog desk = Desks.bare(2);
        desk.addSwitch(1, 0, true);
        desk.addSwitch(0, 1, false);
        expect.due("isClosed(0)", false, desk.isClosed(0));
        expect.due("isClosed(1)", false, desk.isClosed(1));
        expect.due("parts()", 2, desk.parts());
        expect.due("act(1, 0)", 0, desk.act(1, 0));
        desk.addSwitch(0, 1, true);
        expect.due("isClosed(2)", false, desk.isClosed(2));
        expect.due("isClosed(0)", true, desk.isClosed(0));
    }

    private static void addSwitchKeepsWhatItIs() {
        Switchlog breaker = Desks.after(Desks.feeder(true, true), "40 10");
        expect.due("act(1, 1) of a breaker under load", 0, breaker.act(1, 1));
        Switchlog disconnector = Desks.after(Desks.feeder(true, false), "40 10");
        expect.due("act(1, 1) of a disconnector under load", 3, disconnector.act(1, 1));
    }
}
