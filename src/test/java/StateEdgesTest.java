import java.util.NoSuchElementException;
import java.util.function.Supplier;

/** The edges that the document names in 'Terms' for parts, and in promises 20 to 26. */
public final class StateEdgesTest {
    private static final Expect expect = new Expect("StateEdgesTest");
    private static final int ALL = (1 << 16) - 1;

    public static void main(String[] args) {
        isClosedWithoutSuchASwitch();
        isClosedOfTheFirstAndTheLast();
        liveOfNoneToAll();
        liveIfASourceOfThePartIsOn();
        loadedOfNoneToAll();
        loadedIfLiveAndALoadIsInThePart();
        earthedOfNoneToAll();
        earthedIfAnEarthOfThePartIsOn();
        partWithoutSuchANode();
        partOfANodeAlone();
        partOfAllNodes();
        partGoesOverClosedSwitches();
        partsOfNoneToSixteen();
        partsCountsRingsOnce();
        toLiveWithoutSuchANode();
        toLiveOfANodeThatIsLive();
        toLiveFromOneToFifteen();
        toLiveTakesTheLeast();
        toLiveIfItCannotBeLive();
        toLiveRefusesTheNodeFirst();
        toLiveWithTheSourcesThatAreOn();
        toLiveWhetherAllowedOrNot();
        expect.end();
    }

    /** Promise 20: "Throws IndexOutOfBoundsException if there is no such switch". */
    private static void isClosedWithoutSuchASwitch() {
        for (int i : new int[] {0, 1, 2, 23, 24}) {
            int switches = i;
            for (int which : new int[] {-1, switches, switches + 1}) {
                refuseSwitch(() -> Desks.joined(16, switches), which);
                refuseSwitch(() -> allClosed(Desks.joined(16, switches)), which);
            }
        }
        for (int which : Desks.WRAPPED) {
            refuseSwitch(() -> allClosed(Desks.joined(2, 3)), which);
        }
    }

    private static void refuseSwitch(Supplier<Switchlog> made, int which) {
        expect.refused(made, "isClosed(" + which + ")", Desks.INDEX, desk -> desk.isClosed(which));
    }

    private static Switchlog allClosed(Switchlog desk) {
        int switches = desk.switches();
        for (int which = 0; which < switches; which++) {
            desk.act(1, which);
        }
        return desk;
    }

    /** Promise 20: "Returns whether a switch is closed." */
    private static void isClosedOfTheFirstAndTheLast() {
        for (int switches : new int[] {1, 2, 24}) {
            for (int which : new int[] {0, switches - 1}) {
                Switchlog desk = Desks.joined(2, switches);
                expect.due("isClosed(" + which + ") at first", false, desk.isClosed(which));
                desk.act(1, which);
                for (int other = 0; other < switches; other++) {
                    expect.due("isClosed(" + other + ")", other == which, desk.isClosed(other));
                }
                desk.act(1, which);
                expect.due("isClosed(" + which + ") after an act that is not allowed", true, desk.isClosed(which));
                desk.act(0, which);
                expect.due("isClosed(" + which + ") after it is opened", false, desk.isClosed(which));
            }
        }
    }

    /** Sixteen nodes in a row of 15 breakers, numbered upwards or downwards, with a source at the end of the row. */
    private static Switchlog row(boolean upwards, String last) {
        Switchlog desk = Desks.bare(15);
        desk.addNode(last.contains("s"), last.contains("l"));
        for (int i = 0; i < 15; i++) {
            int one = upwards ? i : 14 - i;
            desk.addSwitch(one, one + 1, true);
        }
        return desk;
    }

    /** Promise 21: "Returns all nodes that are live, as a sum". */
    private static void liveOfNoneToAll() {
        expect.due("live() without nodes", 0, new Switchlog().live());
        expect.due("live() with no source on", 0, allClosed(row(true, "s")).live());
        for (boolean upwards : new boolean[] {true, false}) {
            Switchlog desk = row(upwards, "s");
            desk.act(4, 15);
            expect.due("live() of node 15", 1 << 15, desk.live());
            expect.due("live() of all", ALL, allClosed(desk).live());
        }
        expect.due("live() of node 0", 1, Desks.made("s", "", "40").live());
    }

    /** Terms: "A node is live if a node of its part has a source that is on." */
    private static void liveIfASourceOfThePartIsOn() {
        expect.due("live() with the source off", 0, Desks.made("s -", "01b", "10").live());
        expect.due("live() with the switch open", 0b01, Desks.made("s -", "01b", "40").live());
        expect.due("live() with the switch closed", 0b11, Desks.made("s -", "01b", "40 10").live());
        expect.due("live() with the switch opened", 0b01, Desks.made("s -", "01b", "40 10 00").live());
        expect.due("live() with the source switched off", 0, Desks.made("s -", "01b", "40 10 50").live());
        expect.due("live() with one of two off", 0b11, Desks.made("s s", "01b", "40 41 10 50").live());
        expect.due("live() with both off", 0, Desks.made("s s", "01b", "40 41 10 50 51").live());
        expect.due("live() beside an earth", 0b001, Desks.made("s - -", "01b 12b", "40 11 22").live());
    }

    /** Promise 22: "Returns all nodes that are loaded, as a sum". */
    private static void loadedOfNoneToAll() {
        expect.due("loaded() without nodes", 0, new Switchlog().loaded());
        for (boolean upwards : new boolean[] {true, false}) {
            Switchlog desk = row(upwards, "sl");
            expect.due("loaded() with the source off", 0, desk.loaded());
            desk.act(4, 15);
            expect.due("loaded() of node 15", 1 << 15, desk.loaded());
            expect.due("loaded() of all", ALL, allClosed(desk).loaded());
        }
        expect.due("loaded() of node 0", 1, Desks.made("sl", "", "40").loaded());
    }

    /** Terms: "A node is loaded if it is live and a node of its part, perhaps itself, has a load." */
    private static void loadedIfLiveAndALoadIsInThePart() {
        expect.due("loaded() of a node itself", 0b1, Desks.made("sl", "", "40").loaded());
        expect.due("loaded() with the source off", 0, Desks.made("sl", "", "").loaded());
        expect.due("loaded() without a load", 0, Desks.made("s -", "01b", "40 10").loaded());
        expect.due("loaded() of a load alone", 0, Desks.made("s l", "01b", "40").loaded());
        expect.due("loaded() of both ends", 0b11, Desks.made("s l", "01b", "40 10").loaded());
        expect.due("loaded() of a load that is dead", 0, Desks.made("s l", "01b", "10").loaded());
        expect.due("loaded() with the load behind", 0b111, Desks.made("s - l", "01b 12b", "40 10 11").loaded());
        expect.due("loaded() with the load cut off", 0, Desks.made("s - l", "01b 12b", "40 10").loaded());
        expect.due("loaded() of one of two parts", 0b0101,
                Desks.made("s s l -", "02b 13b", "40 41 10 11").loaded());
    }

    /** Promise 23: "Returns all nodes that are earthed, as a sum". */
    private static void earthedOfNoneToAll() {
        expect.due("earthed() without nodes", 0, new Switchlog().earthed());
        expect.due("earthed() with no earth on", 0, allClosed(row(true, "-")).earthed());
        for (boolean upwards : new boolean[] {true, false}) {
            Switchlog desk = row(upwards, "-");
            desk.act(2, 15);
            expect.due("earthed() of node 15", 1 << 15, desk.earthed());
            expect.due("earthed() of all", ALL, allClosed(desk).earthed());
        }
        expect.due("earthed() of 16 earths", ALL, Desks.earthed(16).earthed());
        expect.due("earthed() of node 0", 1, Desks.earthed(1).earthed());
    }

    /** Terms: "A node is earthed if a node of its part has an earth that is on." */
    private static void earthedIfAnEarthOfThePartIsOn() {
        expect.due("earthed() with the switch open", 0b01, Desks.made("- -", "01b", "20").earthed());
        expect.due("earthed() with the switch closed", 0b11, Desks.made("- -", "01b", "20 10").earthed());
        expect.due("earthed() with the switch opened", 0b01, Desks.made("- -", "01b", "20 10 00").earthed());
        expect.due("earthed() with the earth switched off", 0, Desks.made("- -", "01b", "20 10 30").earthed());
        expect.due("earthed() with one of two off", 0b11, Desks.made("- -", "01b", "20 21 10 30").earthed());
        expect.due("earthed() with both off", 0, Desks.made("- -", "01b", "20 21 10 30 31").earthed());
    }

    private static void refuseNode(Supplier<Switchlog> made, int node) {
        expect.refused(made, "part(" + node + ")", Desks.INDEX, desk -> desk.part(node));
        expect.refused(made, "toLive(" + node + ")", Desks.INDEX, desk -> desk.toLive(node));
    }

    /** Promise 24: "Throws IndexOutOfBoundsException if there is no such node". */
    private static void partWithoutSuchANode() {
        for (int i : new int[] {0, 1, 2, 15, 16}) {
            int nodes = i;
            for (int node : new int[] {-1, nodes, nodes + 1}) {
                expect.refused(() -> Desks.bare(nodes), "part(" + node + ") of " + nodes, Desks.INDEX,
                        desk -> desk.part(node));
            }
        }
        for (int node : Desks.WRAPPED) {
            expect.refused(() -> Desks.bare(3), "part(" + node + ")", Desks.INDEX, desk -> desk.part(node));
        }
    }

    /** Terms: "a part is all nodes that are connected with some node"; a node alone is its part. */
    private static void partOfANodeAlone() {
        for (int nodes : new int[] {1, 2, 16}) {
            Switchlog desk = Desks.bare(nodes);
            for (int node = 0; node < nodes; node++) {
                expect.due("part(" + node + ") of " + nodes, 1 << node, desk.part(node));
            }
        }
        expect.due("part(0) with open switches", 1, Desks.joined(2, 24).part(0));
        expect.due("part(1) with open switches", 2, Desks.joined(2, 24).part(1));
    }

    /** Promise 24: "Returns its nodes, as a sum". */
    private static void partOfAllNodes() {
        for (boolean upwards : new boolean[] {true, false}) {
            Switchlog desk = allClosed(row(upwards, "-"));
            for (int node = 0; node < 16; node++) {
                expect.due("part(" + node + ")", ALL, desk.part(node));
            }
            desk.act(0, 0);
            int cut = upwards ? 1 : 1 << 15;
            expect.due("part(0) with the first opened", upwards ? cut : ALL - cut, desk.part(0));
            expect.due("part(15) with the first opened", upwards ? ALL - cut : cut, desk.part(15));
        }
    }

    /** Terms: "Two nodes are connected if there is a way between them over closed switches". */
    private static void partGoesOverClosedSwitches() {
        String ring = "31b 14d 43b";
        partDue(0b01000, 3, "- - - - -", ring, "");
        partDue(0b01010, 3, "- - - - -", ring, "10");
        partDue(0b01010, 1, "- - - - -", ring, "10");
        partDue(0b10000, 4, "- - - - -", ring, "10");
        partDue(0b11010, 4, "- - - - -", ring, "10 11");
        partDue(0b11010, 3, "- - - - -", ring, "11 12");
        partDue(0b11010, 1, "- - - - -", ring, "10 11 12");
        partDue(0b11010, 1, "- - - - -", ring, "10 11 12 00");
        partDue(0b00010, 1, "- - - - -", ring, "10 11 12 00 01");
        partDue(0b00001, 0, "- - - - -", ring, "10 11 12");
    }

    private static void partDue(int want, int node, String nodes, String switches, String acts) {
        expect.due("part(" + node + ") of " + switches + " after " + acts, want,
                Desks.made(nodes, switches, acts).part(node));
    }

    /** Promise 25: "Returns the number of parts." */
    private static void partsOfNoneToSixteen() {
        for (int nodes = 0; nodes <= 16; nodes++) {
            expect.due("parts() of " + nodes + " alone", nodes, Desks.bare(nodes).parts());
        }
        for (boolean upwards : new boolean[] {true, false}) {
            Switchlog desk = row(upwards, "-");
            for (int which = 0; which < 15; which++) {
                expect.due("parts() with " + which + " closed", 16 - which, desk.parts());
                desk.act(1, which);
            }
            expect.due("parts() with all closed", 1, desk.parts());
        }
    }

    /** Promise 25: "Returns the number of parts."; a second way makes no part less. */
    private static void partsCountsRingsOnce() {
        expect.due("parts() of a twin", 1, allClosed(Desks.joined(2, 2)).parts());
        expect.due("parts() of 24 side by side", 1, allClosed(Desks.joined(2, 24)).parts());
        expect.due("parts() of a ring", 3, Desks.made("- - - - -", "31b 14d 43b", "10 11 12").parts());
        expect.due("parts() of a ring that is open", 3, Desks.made("- - - - -", "31b 14d 43b", "10 12").parts());
        expect.due("parts() of two pairs", 2, Desks.made("- - - -", "02b 13b", "10 11").parts());
    }

    /** Promise 26: "Throws IndexOutOfBoundsException if there is no such node". */
    private static void toLiveWithoutSuchANode() {
        for (int i : new int[] {0, 1, 2, 15}) {
            int before = i;
            Supplier<Switchlog> made = () -> oneLiveAfter(before);
            for (int node : new int[] {-1, before + 1, before + 2}) {
                expect.refused(made, "toLive(" + node + ")", Desks.INDEX, desk -> desk.toLive(node));
            }
            expect.due("toLive(" + before + ")", 0, made.get().toLive(before));
        }
        for (int node : Desks.WRAPPED) {
            expect.refused(() -> oneLiveAfter(0), "toLive(" + node + ")", Desks.INDEX, desk -> desk.toLive(node));
        }
    }

    private static Switchlog oneLiveAfter(int before) {
        Switchlog desk = Desks.bare(before);
        desk.addNode(true, false);
        desk.act(4, before);
        return desk;
    }

    /** Promise 26: "0 if it is live". */
    private static void toLiveOfANodeThatIsLive() {
        expect.due("toLive(0) of a source", 0, Desks.made("s -", "01b", "40").toLive(0));
        expect.due("toLive(1) behind an open switch", 1, Desks.made("s -", "01b", "40").toLive(1));
        expect.due("toLive(1) behind a closed switch", 0, Desks.made("s -", "01b", "40 10").toLive(1));
        expect.due("toLive(1) after it is opened", 1, Desks.made("s -", "01b", "40 10 00").toLive(1));
        Switchlog desk = row(true, "s");
        desk.act(4, 15);
        expect.due("toLive(0) of a row that is closed", 0, allClosed(desk).toLive(0));
    }

    /** Promise 26: "Returns the least number of switches that would have to be closed"; no way has more than 15. */
    private static void toLiveFromOneToFifteen() {
        for (boolean upwards : new boolean[] {true, false}) {
            Switchlog desk = row(upwards, "s");
            desk.act(4, 15);
            for (int node = 0; node < 16; node++) {
                expect.due("toLive(" + node + ") of 15 open", 15 - node, desk.toLive(node));
            }
            for (int which = 0; which < 15; which++) {
                desk.act(1, which);
                expect.due("toLive(0) with " + (which + 1) + " closed", 14 - which, desk.toLive(0));
            }
        }
    }

    private static void toLiveDue(int want, int node, String nodes, String switches, String acts) {
        expect.due("toLive(" + node + ") of " + nodes + ", " + switches + " after " + acts, want,
                Desks.made(nodes, switches, acts).toLive(node));
    }

    /** Promise 26: "the least number": over several ways, over closed switches that count nothing. */
    private static void toLiveTakesTheLeast() {
        String ways = "04b 45b 01b 12b 23b 35b";
        toLiveDue(2, 0, "- - - - - s", ways, "45");
        toLiveDue(2, 0, "- - - - - s", ways, "45 12");
        toLiveDue(2, 0, "- - - - - s", ways, "45 12 13");
        toLiveDue(1, 0, "- - - - - s", ways, "45 12 13 14");
        toLiveDue(0, 0, "- - - - - s", ways, "45 12 13 14 15");
        toLiveDue(1, 0, "- - - - - s", ways, "45 11 12 13");
        toLiveDue(1, 4, "- - - - - s", ways, "45 12 14 15");
        // The nearer of two sources.
        toLiveDue(2, 2, "s - - s", "01b 12b 23b", "40");
        toLiveDue(1, 2, "s - - s", "01b 12b 23b", "40 43");
        toLiveDue(1, 1, "s - - s", "01b 12b 23b", "40 43");
        // Switches side by side count once.
        toLiveDue(1, 1, "s -", "01b 01d 10b", "40");
        toLiveDue(2, 2, "s - -", "01b 01d 12b 21d", "40");
        toLiveDue(1, 2, "s - -", "01b 01d 12b 21d", "40 11");
        Switchlog last = Desks.joined(2, 22);
        last.addNode(true, false);
        last.addNode(false, false);
        last.addSwitch(2, 3, true);
        last.addSwitch(1, 2, true);
        last.act(4, 2);
        expect.due("toLive(0) over the last of 24 switches", 2, last.toLive(0));
        expect.due("toLive(1) over the last of 24 switches", 1, last.toLive(1));
        expect.due("toLive(3) over the last but one", 1, last.toLive(3));
    }

    private static void cannotBeLive(int node, String nodes, String switches, String acts) {
        expect.refused(() -> Desks.made(nodes, switches, acts),
                "toLive(" + node + ") of " + nodes + ", " + switches + " after " + acts,
                NoSuchElementException.class, desk -> desk.toLive(node));
    }

    /** Promise 26: "Throws NoSuchElementException if it cannot be live". */
    private static void toLiveIfItCannotBeLive() {
        cannotBeLive(0, "-", "", "");
        cannotBeLive(0, "s", "", "");
        cannotBeLive(0, "s", "", "40 50");
        cannotBeLive(1, "s -", "", "40");
        cannotBeLive(1, "s -", "01b", "");
        cannotBeLive(1, "s -", "01b", "10");
        cannotBeLive(1, "- -", "01b", "10");
        cannotBeLive(2, "s - - -", "01b 23b", "40");
        cannotBeLive(3, "s - - -", "01b 23b", "40 10 11");
        toLiveDue(1, 1, "s - - -", "01b 23b", "40");
        toLiveDue(3, 3, "s - - -", "01b 23b 12b", "40");
        expect.refused(() -> row(true, "s"), "toLive(0) of a row with its source off",
                NoSuchElementException.class, desk -> desk.toLive(0));
        expect.refused(() -> Desks.joined(16, 24), "toLive(15) of a node alone",
                NoSuchElementException.class, desk -> desk.toLive(15));
    }

    /** Terms: "If several exceptions apply, the one that is documented first is thrown." */
    private static void toLiveRefusesTheNodeFirst() {
        for (int node : new int[] {-1, 2, 3}) {
            refuseNode(() -> Desks.bare(2), node);
            refuseNode(() -> Desks.made("s s", "01b", ""), node);
        }
        refuseNode(() -> Desks.bare(16), 16);
        refuseNode(() -> new Switchlog(), 0);
    }

    /** Promise 26: "with the sources that are on". */
    private static void toLiveWithTheSourcesThatAreOn() {
        toLiveDue(2, 2, "s - - s", "01b 12b 23b", "40");
        toLiveDue(1, 2, "s - - s", "01b 12b 23b", "43");
        toLiveDue(2, 2, "s - - s", "01b 12b 23b", "40 43 53");
        toLiveDue(3, 3, "s - - s", "01b 12b 23b", "40");
        toLiveDue(1, 0, "s s", "01b", "41");
        cannotBeLive(2, "s - - s", "01b 12b 23b", "40 43 50 53");
    }

    /** Promise 26: "that would have to be closed, whether allowed or not". */
    private static void toLiveWhetherAllowedOrNot() {
        toLiveDue(1, 1, "s -", "01b", "40 21");
        toLiveDue(1, 1, "s l", "01d", "40");
        toLiveDue(2, 2, "s - l", "01d 12d", "40 22");
        toLiveDue(1, 2, "s - -", "01b 12b", "40 11 22");
        Switchlog desk = Desks.withPermits(Desks.made("s - l", "01d 12d", "40 21 22"), 0b110);
        expect.due("toLive(2) of a node that is held", 2, desk.toLive(2));
        expect.due("toLive(1) of a node that is held", 1, desk.toLive(1));
    }
}
