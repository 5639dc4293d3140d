/** Promises 1 to 5: what is built. */
public final class BuildTest {
    private static final Expect expect = new Expect("BuildTest");

    public static void main(String[] args) {
        aNewDeskIsEmpty();
        desksDoNotShareAnything();
        addNodeNumbersSixteen();
        addNodeKeepsSourceAndLoadApart();
        addNodeLeavesTheRestAlone();
        addSwitchNumbersTwentyFour();
        addSwitchRefusesInOrder();
        addSwitchIsOpenAtFirst();
        addSwitchKeepsWhatItIs();
        expect.end();
    }

    private static void aNewDeskIsEmpty() {
        Switchlog desk = new Switchlog();
        expect.due("nodes()", 0, desk.nodes());
        expect.due("switches()", 0, desk.switches());
        expect.due("log()", 0, desk.log());
        expect.due("held()", 0, desk.held());
        expect.due("live()", 0, desk.live());
        expect.due("loaded()", 0, desk.loaded());
        expect.due("earthed()", 0, desk.earthed());
        expect.due("parts()", 0, desk.parts());
        expect.due("check()", 0, desk.check());
        expect.due("carryOut(30)", 0, desk.carryOut(30));
        expect.due("writeBack()", 0, desk.writeBack());
        expect.due("erase()", 0, desk.erase());
    }

    private static void desksDoNotShareAnything() {
        Switchlog one = Desks.withLog(3);
        one.permit(1);
        one.write(3, 0);
        String before = Sight.of(one);
        Switchlog other = new Switchlog();
        expect.due("nodes() of another desk", 0, other.nodes());
        other.addNode(true, true);
        other.act(4, 0);
        expect.due("what is seen of the first desk", before, Sight.of(one));
    }

    private static void addNodeNumbersSixteen() {
        Switchlog desk = new Switchlog();
        for (int i = 0; i < 16; i++) {
            expect.due("addNode " + i, i, desk.addNode(i % 2 == 0, i % 3 == 0));
            expect.due("nodes()", i + 1, desk.nodes());
        }
        expect.refused(desk, "a 17th addNode", Desks.STATE, () -> desk.addNode(true, true));
        expect.due("act(4, 14)", 0, desk.act(4, 14));
        expect.due("live()", 1 << 14, desk.live());
        expect.due("part(15)", 1 << 15, desk.part(15));
        expect.due("parts()", 16, desk.parts());
    }

    private static void addNodeKeepsSourceAndLoadApart() {
        Switchlog desk = new Switchlog();
        desk.addNode(false, false);
        desk.addNode(false, true);
        desk.addNode(true, false);
        desk.addNode(true, true);
        expect.due("earthed() at first", 0, desk.earthed());
        expect.due("live() at first", 0, desk.live());
        expect.due("act(4, 0) without a source", 1, desk.act(4, 0));
        expect.due("act(4, 1) without a source", 1, desk.act(4, 1));
        expect.due("act(4, 2)", 0, desk.act(4, 2));
        expect.due("act(4, 3)", 0, desk.act(4, 3));
        expect.due("live()", 0b1100, desk.live());
        expect.due("loaded()", 0b1000, desk.loaded());
    }

    private static void addNodeLeavesTheRestAlone() {
        Switchlog desk = Desks.after(Desks.feeder(true, true), "40 10 22");
        expect.due("addNode", 3, desk.addNode(true, true));
        expect.due("live()", 0b0011, desk.live());
        expect.due("earthed()", 0b0100, desk.earthed());
        expect.due("part(3)", 0b1000, desk.part(3));
        expect.due("log()", 3, desk.log());
        expect.due("act(4, 3)", 0, desk.act(4, 3));
    }

    private static void addSwitchNumbersTwentyFour() {
        Switchlog desk = Desks.bare(3);
        for (int i = 0; i < 24; i++) {
            expect.due("addSwitch " + i, i, desk.addSwitch(i % 3, (i + 1) % 3, i % 2 == 0));
            expect.due("switches()", i + 1, desk.switches());
        }
        expect.refused(desk, "a 25th addSwitch", Desks.STATE, () -> desk.addSwitch(0, 1, true));
        expect.due("act(1, 23)", 0, desk.act(1, 23));
        expect.due("isClosed(23)", true, desk.isClosed(23));
        expect.due("part(0)", 0b101, desk.part(0));
        expect.due("isClosed(22)", false, desk.isClosed(22));
    }

    private static void addSwitchRefusesInOrder() {
        Switchlog empty = new Switchlog();
        expect.refused(empty, "addSwitch(0, 0) without nodes", Desks.INDEX, () -> empty.addSwitch(0, 0, true));
        Switchlog desk = Desks.bare(2);
        expect.refused(desk, "addSwitch(-1, 1)", Desks.INDEX, () -> desk.addSwitch(-1, 1, true));
        expect.refused(desk, "addSwitch(1, -1)", Desks.INDEX, () -> desk.addSwitch(1, -1, true));
        expect.refused(desk, "addSwitch(2, 1)", Desks.INDEX, () -> desk.addSwitch(2, 1, true));
        expect.refused(desk, "addSwitch(1, 2)", Desks.INDEX, () -> desk.addSwitch(1, 2, true));
        expect.refused(desk, "addSwitch(2, 2)", Desks.INDEX, () -> desk.addSwitch(2, 2, true));
        expect.refused(desk, "addSwitch(1, 32)", Desks.INDEX, () -> desk.addSwitch(1, 32, true));
        expect.refused(desk, "addSwitch(0, least)", Desks.INDEX,
                () -> desk.addSwitch(0, Integer.MIN_VALUE, true));
        expect.refused(desk, "addSwitch(greatest, 0)", Desks.INDEX,
                () -> desk.addSwitch(Integer.MAX_VALUE, 0, true));
        expect.refused(desk, "addSwitch(1, 1)", Desks.ARGUMENT, () -> desk.addSwitch(1, 1, false));
        expect.due("switches()", 0, desk.switches());
        for (int i = 0; i < 24; i++) {
            desk.addSwitch(0, 1, true);
        }
        expect.refused(desk, "addSwitch(0, 2) of 24", Desks.INDEX, () -> desk.addSwitch(0, 2, true));
        expect.refused(desk, "addSwitch(0, 0) of 24", Desks.ARGUMENT, () -> desk.addSwitch(0, 0, true));
        expect.refused(desk, "addSwitch(0, 1) of 24", Desks.STATE, () -> desk.addSwitch(0, 1, true));
    }

    private static void addSwitchIsOpenAtFirst() {
        Switchlog desk = Desks.bare(2);
        desk.addSwitch(1, 0, true);
        desk.addSwitch(0, 1, false);
        expect.due("isClosed(0)", false, desk.isClosed(0));
        expect.due("isClosed(1)", false, desk.isClosed(1));
        expect.due("parts()", 2, desk.parts());
        expect.due("act(1, 0)", 0, desk.act(1, 0));
        desk.addSwitch(0, 1, true);
        expect.due("isClosed(2)", false, desk.isClosed(2));
        expect.due("isClosed(0)", true, desk.isClosed(0));
    }

    private static void addSwitchKeepsWhatItIs() {
        Switchlog breaker = Desks.after(Desks.feeder(true, true), "40 10");
        expect.due("act(1, 1) of a breaker under load", 0, breaker.act(1, 1));
        Switchlog disconnector = Desks.after(Desks.feeder(true, false), "40 10");
        expect.due("act(1, 1) of a disconnector under load", 3, disconnector.act(1, 1));
    }
}
