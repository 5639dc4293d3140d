/** Promises 20 to 26: what is. */
public final class StateTest {
    private static final Expect expect = new Expect("StateTest");

    public static void main(String[] args) {
        isClosedFollowsActs();
        whichNodesAreLive();
        whichNodesAreLoaded();
        whichNodesAreEarthed();
        partsGoOverClosedSwitches();
        longWaysAreFollowedBothWays();
        toLiveCountsOpenSwitches();
        toLiveTakesTheShortestWay();
        toLiveAsksForNoLeave();
        toLiveGoesThroughAll();
        toLivePassesSwitchesSideBySide();
        expect.end();
    }

    private static void isClosedFollowsActs() {
        Switchlog desk = Desks.feeder(true, false);
        desk.act(1, 1);
        expect.due("isClosed(0)", false, desk.isClosed(0));
        expect.due("isClosed(1)", true, desk.isClosed(1));
        desk.act(0, 1);
        expect.due("isClosed(1)", false, desk.isClosed(1));
    }

    private static void whichNodesAreLive() {
        Switchlog desk = Desks.feeder(true, true);
        desk.addNode(true, false);
        desk.addSwitch(2, 3, true);
        expect.due("live() with no source on", 0, desk.live());
        Desks.after(desk, "40");
        expect.due("live() of one", 0b0001, desk.live());
        Desks.after(desk, "10 12");
        expect.due("live() of two", 0b0011, desk.live());
        Desks.after(desk, "43");
        expect.due("live() of both sides", 0b1111, desk.live());
        Desks.after(desk, "50");
        expect.due("live() of the other side", 0b1100, desk.live());
        Desks.after(desk, "11");
        expect.due("live() of all", 0b1111, desk.live());
        desk.takeBack();
        expect.due("live() after takeBack()", 0b1100, desk.live());
    }

    private static void whichNodesAreLoaded() {
        Switchlog desk = Desks.feeder(true, true);
        expect.due("loaded() with no source on", 0, desk.loaded());
        Desks.after(desk, "40 10");
        expect.due("loaded() without the load", 0, desk.loaded());
        Desks.after(desk, "11");
        expect.due("loaded() of all", 0b111, desk.loaded());
        Desks.after(desk, "00");
        expect.due("loaded() of a load alone", 0, desk.loaded());
        Switchlog itself = new Switchlog();
        itself.addNode(true, true);
        itself.addNode(true, false);
        Desks.after(itself, "40 41");
        expect.due("loaded() of a node itself", 0b01, itself.loaded());
    }

    private static void whichNodesAreEarthed() {
        Switchlog desk = Desks.feeder(true, true);
        expect.due("earthed() with no earth on", 0, desk.earthed());
        Desks.after(desk, "21");
        expect.due("earthed() of one", 0b010, desk.earthed());
        Desks.after(desk, "11");
        expect.due("earthed() of two", 0b110, desk.earthed());
        Desks.after(desk, "20 31");
        expect.due("earthed() of another", 0b001, desk.earthed());
    }

    private static void partsGoOverClosedSwitches() {
        Switchlog desk = Desks.bare(5);
        desk.addSwitch(3, 1, true);
        desk.addSwitch(1, 4, false);
        desk.addSwitch(4, 3, true);
        expect.due("parts() at first", 5, desk.parts());
        expect.due("part(3) at first", 0b01000, desk.part(3));
        Desks.after(desk, "10");
        expect.due("parts() with one closed", 4, desk.parts());
        expect.due("part(1)", 0b01010, desk.part(1));
        expect.due("part(3)", 0b01010, desk.part(3));
        expect.due("part(4)", 0b10000, desk.part(4));
        Desks.after(desk, "11 12");
        expect.due("parts() with a ring", 3, desk.parts());
        expect.due("part(4)", 0b11010, desk.part(4));
        expect.due("part(0)", 0b00001, desk.part(0));
        Desks.after(desk, "00");
        expect.due("parts() with the ring open", 3, desk.parts());
        Desks.after(desk, "01");
        expect.due("part(1) alone", 0b00010, desk.part(1));
        expect.due("part(3)", 0b11000, desk.part(3));
        desk.addNode(false, false);
        expect.due("parts() with a node more", 5, desk.parts());
    }

    /** Numbered so that the way runs against the order of nodes or of switches. */
    private static void longWaysAreFollowedBothWays() {
        for (boolean against : new boolean[] {false, true}) {
            Switchlog desk = Desks.bare(15);
            desk.addNode(true, false);
            for (int i = 0; i < 15; i++) {
                int one = against ? i : 14 - i;
                desk.addSwitch(one, one + 1, true);
            }
            expect.due("act(4, 15)", 0, desk.act(4, 15));
            expect.due("toLive(0) over 15", 15, desk.toLive(0));
            for (int i = 0; i < 15; i++) {
                desk.act(1, i);
            }
            expect.due("part(0)", (1 << 16) - 1, desk.part(0));
            expect.due("part(15)", (1 << 16) - 1, desk.part(15));
            expect.due("live()", (1 << 16) - 1, desk.live());
            expect.due("parts()", 1, desk.parts());
            expect.due("toLive(0)", 0, desk.toLive(0));
        }
    }

    private static void toLiveCountsOpenSwitches() {
        Switchlog desk = Desks.feeder(true, true);
        Desks.after(desk, "40");
        expect.due("toLive(0)", 0, desk.toLive(0));
        expect.due("toLive(1)", 1, desk.toLive(1));
        expect.due("toLive(2)", 2, desk.toLive(2));
        Desks.after(desk, "11");
        expect.due("toLive(2) with one closed", 1, desk.toLive(2));
        Desks.after(desk, "10");
        expect.due("toLive(2) with both closed", 0, desk.toLive(2));
    }

    private static void toLiveTakesTheShortestWay() {
        Switchlog desk = Desks.bare(5);
        desk.addNode(true, false);
        // The way over 1, 2, 3 is closed but for one switch; the direct one over 4 has two open.
        desk.addSwitch(0, 4, true);
        desk.addSwitch(4, 5, true);
        desk.addSwitch(0, 1, true);
        desk.addSwitch(1, 2, true);
        desk.addSwitch(2, 3, true);
        desk.addSwitch(3, 5, true);
        Desks.after(desk, "45");
        expect.due("toLive(0) over two", 2, desk.toLive(0));
        Desks.after(desk, "12 14 15");
        expect.due("toLive(0) over one", 1, desk.toLive(0));
        expect.due("toLive(1)", 1, desk.toLive(1));
        expect.due("toLive(4)", 1, desk.toLive(4));
        expect.due("toLive(2)", 0, desk.toLive(2));
        Switchlog two = Desks.feeder(true, true);
        two.addNode(true, false);
        two.addSwitch(3, 2, true);
        Desks.after(two, "40");
        expect.due("toLive(2) with the far source", 2, two.toLive(2));
        Desks.after(two, "43");
        expect.due("toLive(2) with the near source", 1, two.toLive(2));
    }

    private static void toLiveAsksForNoLeave() {
        Switchlog desk = Desks.after(Desks.feeder(false, false), "40 22");
        desk.permit(0b100);
        expect.due("toLive(2) of a held node behind disconnectors", 2, desk.toLive(2));
    }

    private static void toLiveGoesThroughAll() {
        Switchlog desk = Desks.bare(15);
        desk.addNode(true, false);
        // A way 0 - 15 - 1 - 14 - 2 - 13 and so on to 7 - 8.
        for (int i = 0; i < 7; i++) {
            desk.addSwitch(i, 15 - i, true);
            desk.addSwitch(15 - i, i + 1, true);
        }
        desk.addSwitch(7, 8, false);
        desk.act(4, 15);
        expect.due("toLive(0)", 1, desk.toLive(0));
        expect.due("toLive(1)", 1, desk.toLive(1));
        expect.due("toLive(14)", 2, desk.toLive(14));
        expect.due("toLive(8)", 14, desk.toLive(8));
        desk.act(1, 4);
        expect.due("toLive(8) with 2 - 13 closed", 13, desk.toLive(8));
    }

    private static void toLivePassesSwitchesSideBySide() {
        Switchlog desk = Desks.feeder(true, true);
        desk.addSwitch(0, 1, false);
        desk.addSwitch(2, 1, false);
        Desks.after(desk, "40");
        expect.due("toLive(2) over two of two", 2, desk.toLive(2));
        for (int i = 4; i < 24; i++) {
            desk.addSwitch(1, 2 * (i % 2), true);
        }
        expect.due("toLive(1) over one of twelve", 1, desk.toLive(1));
        expect.due("toLive(2) over two of twelve", 2, desk.toLive(2));
        desk.act(1, 23);
        expect.due("toLive(2) with the last one closed", 1, desk.toLive(2));
    }
}
