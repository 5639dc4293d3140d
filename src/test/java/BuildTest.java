/** Promises 1 to 5: what is built. */
public final class BuildTest {
    private static final Expect expect = new Expect("BuildTest");

    public static void main(String[] args) {
        desksDoNotShareAnything();
        addNodeKeepsSourceAndLoadApart();
        addNodeLeavesTheRestAlone();
        addSwitchIsOpenAtFirst();
        addSwitchKeepsWhatItIs();
        expect.end();
    }

    private static Switchlog worked() {
        return Desks.withPermits(Desks.written(Desks.withLog(3), "30"), 1);
    }

    private static void desksDoNotShareAnything() {
        Switchlog one = worked();
        Switchlog other = new Switchlog();
        expect.due("nodes() of another desk", 0, other.nodes());
        other.addNode(true, true);
        other.act(4, 0);
        expect.due("log() of the first desk", 3, one.log());
        expect.due("live() of the first desk", 0, one.live());
        expect.due("held() of the first desk", 1, one.held());
        expect.due("erase() of the first desk", 1, one.erase());
        expect.due("log() of the other desk", 1, other.log());
    }

    private static void addNodeKeepsSourceAndLoadApart() {
        Switchlog desk = new Switchlog();
        desk.addNode(false, false);
        desk.addNode(false, true);
        desk.addNode(true, false);
        desk.addNode(true, true);
        expect.due("earthed() at first", 0, desk.earthed());
        expect.due("live() at first", 0, desk.live());
        expect.due("act(4, 0) without a source", 1, desk.act(4, 0));
        expect.due("act(4, 1) without a source", 1, desk.act(4, 1));
        expect.due("act(4, 2)", 0, desk.act(4, 2));
        expect.due("act(4, 3)", 0, desk.act(4, 3));
        expect.due("live()", 0b1100, desk.live());
        expect.due("loaded()", 0b1000, desk.loaded());
    }

    private static void addNodeLeavesTheRestAlone() {
        Switchlog desk = Desks.after(Desks.feeder(true, true), "40 10 22");
        expect.due("addNode", 3, desk.addNode(true, true));
        expect.due("live()", 0b0011, desk.live());
        expect.due("earthed()", 0b0100, desk.earthed());
        expect.due("part(3)", 0b1000, desk.part(3));
        expect.due("log()", 3, desk.log());
        expect.due("act(4, 3)", 0, desk.act(4, 3));
    }

    private static void addSwitchIsOpenAtFirst() {
        Switchlog desk = Desks.bare(2);
        desk.addSwitch(1, 0, true);
        desk.addSwitch(0, 1, false);
        expect.due("isClosed(0)", false, desk.isClosed(0));
        expect.due("isClosed(1)", false, desk.isClosed(1));
        expect.due("parts()", 2, desk.parts());
        expect.due("act(1, 0)", 0, desk.act(1, 0));
        desk.addSwitch(0, 1, true);
        expect.due("isClosed(2)", false, desk.isClosed(2));
        expect.due("isClosed(0)", true, desk.isClosed(0));
    }

    private static void addSwitchKeepsWhatItIs() {
        Switchlog breaker = Desks.after(Desks.feeder(true, true), "40 10");
        expect.due("act(1, 1) of a breaker under load", 0, breaker.act(1, 1));
        Switchlog disconnector = Desks.after(Desks.feeder(true, false), "40 10");
        expect.due("act(1, 1) of a disconnector under load", 3, disconnector.act(1, 1));
    }
}
