/** Promises 17 to 19: permits. */
public final class PermitsTest {
    private static final Expect expect = new Expect("PermitsTest");

    public static void main(String[] args) {
        permitHoldsSeveralNodes();
        permitHoldsNodesEarthedFromAfar();
        handBackCounts();
        heldIsWhatAllPermitsHold();
        expect.end();
    }

    private static void permitHoldsSeveralNodes() {
        Switchlog desk = Desks.earthed(4);
        expect.due("permit(0b1010)", 0, desk.permit(0b1010));
        expect.due("held()", 0b1010, desk.held());
        expect.due("act(3, 1)", 2, desk.act(3, 1));
        expect.due("act(3, 3)", 2, desk.act(3, 3));
        expect.due("act(3, 0)", 0, desk.act(3, 0));
        expect.due("act(3, 2)", 0, desk.act(3, 2));
        expect.due("handBack(0)", 0, desk.handBack(0));
        expect.due("act(3, 1)", 0, desk.act(3, 1));
    }

    private static void permitHoldsNodesEarthedFromAfar() {
        Switchlog desk = Desks.after(Desks.feeder(true, true), "10 11 22");
        expect.due("permit(0b001)", 0, desk.permit(0b001));
        expect.due("held()", 0b001, desk.held());
        expect.due("act(0, 1)", 4, desk.act(0, 1));
        expect.due("log()", 3, desk.log());
    }

    private static void handBackCounts() {
        Switchlog desk = Desks.earthed(3);
        desk.permit(0b001);
        desk.permit(0b010);
        desk.permit(0b100);
        expect.due("handBack(1)", 2, desk.handBack(1));
        expect.due("held()", 0b101, desk.held());
        expect.due("handBack(2)", 1, desk.handBack(2));
        expect.due("permit(0b110)", 3, desk.permit(0b110));
        expect.due("handBack(0)", 1, desk.handBack(0));
        expect.due("handBack(3)", 0, desk.handBack(3));
        expect.due("held()", 0, desk.held());
    }

    private static void heldIsWhatAllPermitsHold() {
        Switchlog desk = Desks.earthed(16);
        expect.due("held() with no permit", 0, desk.held());
        desk.permit(0b11 << 14);
        expect.due("held() with one", 0b11 << 14, desk.held());
        desk.permit(0b101);
        expect.due("held() with two", 0b11 << 14 | 0b101, desk.held());
        desk.handBack(0);
        expect.due("held() with the second", 0b101, desk.held());
    }
}
