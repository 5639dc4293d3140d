/** Promises 17 to 19: permits. */
public final class PermitsTest {
    private static final Expect expect = new Expect("PermitsTest");

    public static void main(String[] args) {
        permitNumbersTen();
        permitRefusesNodes();
        permitRefusesWhatCannotBeGiven();
        permitHoldsSeveralNodes();
        permitHoldsNodesEarthedFromAfar();
        handBackCounts();
        handBackRefusesInOrder();
        heldIsWhatAllPermitsHold();
        expect.end();
    }

    private static Switchlog earthed(int nodes) {
        Switchlog desk = Desks.bare(nodes);
        for (int node = 0; node < nodes; node++) {
            desk.act(2, node);
        }
        return desk;
    }

    private static void permitNumbersTen() {
        Switchlog desk = earthed(16);
        for (int i = 0; i < 10; i++) {
            expect.due("permit " + i, i, desk.permit(1 << i));
        }
        expect.refused(desk, "an 11th permit", Desks.STATE, () -> desk.permit(1 << 10));
        expect.refused(desk, "an 11th permit of none", Desks.ARGUMENT, () -> desk.permit(0));
        expect.refused(desk, "an 11th permit of node 16", Desks.ARGUMENT, () -> desk.permit(1 << 16));
        for (int i = 0; i < 10; i++) {
            expect.due("handBack " + i, 9 - i, desk.handBack(i));
        }
        expect.refused(desk, "a permit after ten were handed back", Desks.STATE, () -> desk.permit(1));
        Switchlog again = earthed(1);
        for (int i = 0; i < 10; i++) {
            expect.due("permit " + i + " of the same node", i, again.permit(1));
            expect.due("handBack " + i, 0, again.handBack(i));
        }
        expect.refused(again, "an 11th permit of it", Desks.STATE, () -> again.permit(1));
    }

    private static void permitRefusesNodes() {
        Switchlog empty = new Switchlog();
        expect.refused(empty, "permit(0) without nodes", Desks.ARGUMENT, () -> empty.permit(0));
        expect.refused(empty, "permit(1) without nodes", Desks.ARGUMENT, () -> empty.permit(1));
        Switchlog desk = earthed(3);
        for (int nodes : new int[] {0, 8, 9, 15, 1 << 16, 1 << 30, -1, -8, Integer.MIN_VALUE, Integer.MIN_VALUE + 1}) {
            expect.refused(desk, "permit(" + nodes + ")", Desks.ARGUMENT, () -> desk.permit(nodes));
        }
        expect.due("permit(7)", 0, desk.permit(7));
        expect.refused(desk, "permit(15)", Desks.ARGUMENT, () -> desk.permit(15));
        Switchlog whole = earthed(16);
        expect.refused(whole, "permit(-1) of 16 nodes", Desks.ARGUMENT, () -> whole.permit(-1));
        expect.refused(whole, "permit(2 to the 16th) of 16 nodes", Desks.ARGUMENT, () -> whole.permit(1 << 16));
        expect.due("permit of 16 nodes", 0, whole.permit((1 << 16) - 1));
    }

    private static void permitRefusesWhatCannotBeGiven() {
        Switchlog desk = Desks.after(Desks.feeder(true, true), "40 22");
        expect.refused(desk, "permit of a live node", Desks.STATE, () -> desk.permit(0b001));
        expect.refused(desk, "permit of a node that is not earthed", Desks.STATE, () -> desk.permit(0b010));
        expect.refused(desk, "permit of one earthed and one not", Desks.STATE, () -> desk.permit(0b110));
        expect.refused(desk, "permit of one earthed and one live", Desks.STATE, () -> desk.permit(0b101));
        expect.due("permit(0b100)", 0, desk.permit(0b100));
        expect.refused(desk, "permit of a node that is held", Desks.STATE, () -> desk.permit(0b100));
        Desks.after(desk, "21");
        expect.refused(desk, "permit of one held and one not", Desks.STATE, () -> desk.permit(0b110));
        expect.due("permit(0b010)", 1, desk.permit(0b010));
        expect.due("handBack(0)", 1, desk.handBack(0));
        expect.refused(desk, "permit of one held still", Desks.STATE, () -> desk.permit(0b110));
        expect.due("permit(0b100) again", 2, desk.permit(0b100));
    }

    private static void permitHoldsSeveralNodes() {
        Switchlog desk = earthed(4);
        expect.due("permit(0b1010)", 0, desk.permit(0b1010));
        expect.due("held()", 0b1010, desk.held());
        expect.due("act(3, 1)", 2, desk.act(3, 1));
        expect.due("act(3, 3)", 2, desk.act(3, 3));
        expect.due("act(3, 0)", 0, desk.act(3, 0));
        expect.due("act(3, 2)", 0, desk.act(3, 2));
        expect.due("handBack(0)", 0, desk.handBack(0));
        expect.due("act(3, 1)", 0, desk.act(3, 1));
    }

    private static void permitHoldsNodesEarthedFromAfar() {
        Switchlog desk = Desks.after(Desks.feeder(true, true), "10 11 22");
        expect.due("permit(0b001)", 0, desk.permit(0b001));
        expect.due("held()", 0b001, desk.held());
        expect.due("act(0, 1)", 4, desk.act(0, 1));
        expect.due("log()", 3, desk.log());
    }

    private static void handBackCounts() {
        Switchlog desk = earthed(3);
        desk.permit(0b001);
        desk.permit(0b010);
        desk.permit(0b100);
        expect.due("handBack(1)", 2, desk.handBack(1));
        expect.due("held()", 0b101, desk.held());
        expect.due("handBack(2)", 1, desk.handBack(2));
        expect.due("permit(0b110)", 3, desk.permit(0b110));
        expect.due("handBack(0)", 1, desk.handBack(0));
        expect.due("handBack(3)", 0, desk.handBack(3));
        expect.due("held()", 0, desk.held());
    }

    private static void handBackRefusesInOrder() {
        Switchlog empty = new Switchlog();
        expect.refused(empty, "handBack(0) with none given", Desks.INDEX, () -> empty.handBack(0));
        Switchlog desk = earthed(2);
        desk.permit(0b01);
        desk.permit(0b10);
        for (int permit : new int[] {-1, 2, 9, 10, Integer.MIN_VALUE, Integer.MAX_VALUE}) {
            expect.refused(desk, "handBack(" + permit + ")", Desks.INDEX, () -> desk.handBack(permit));
        }
        desk.handBack(0);
        expect.refused(desk, "handBack(0) twice", Desks.STATE, () -> desk.handBack(0));
        desk.permit(0b01);
        expect.refused(desk, "handBack(0) with its node held again", Desks.STATE, () -> desk.handBack(0));
        expect.due("held()", 0b11, desk.held());
    }

    private static void heldIsWhatAllPermitsHold() {
        Switchlog desk = earthed(16);
        expect.due("held() with no permit", 0, desk.held());
        desk.permit(0b11 << 14);
        expect.due("held() with one", 0b11 << 14, desk.held());
        desk.permit(0b101);
        expect.due("held() with two", 0b11 << 14 | 0b101, desk.held());
        desk.handBack(0);
        expect.due("held() with the second", 0b101, desk.held());
    }
}
