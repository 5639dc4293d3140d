/** Promises 17 to 19: permits. */
public final class PermitsTest {
    private static final Expect expect = new Expect("PermitsTest");

    public static void main(String[] args) {
        permitNumbersTen();
        permitRefusesNodes();
        permitRefusesWhatCannotBeGiven();
        permitHoldsSeveralNodes();
        permitHoldsNodesEarthedFromAfar();
        handBackCounts();
        handBackRefusesInOrder();
        heldIsWhatAllPermitsHold();
        expect.end();
    }

    /** Ten permits were given, of one node each. */
    private static Switchlog tenGiven() {
        return Desks.withPermits(Desks.earthed(16), 1, 2, 4, 8, 16, 32, 64, 128, 256, 512);
    }

    private static Switchlog tenHandedBack() {
        Switchlog desk = tenGiven();
        for (int i = 0; i < 10; i++) {
            desk.handBack(i);
        }
        return desk;
    }

    private static void permitNumbersTen() {
        Switchlog desk = Desks.earthed(16);
        for (int i = 0; i < 10; i++) {
            expect.due("permit " + i, i, desk.permit(1 << i));
        }
        for (int i = 0; i < 10; i++) {
            expect.due("handBack " + i, 9 - i, desk.handBack(i));
        }
        expect.refused(() -> tenGiven(), "an 11th permit", Desks.STATE, x -> x.permit(1 << 10));
        expect.refused(() -> tenGiven(), "an 11th permit of none", Desks.ARGUMENT, x -> x.permit(0));
        expect.refused(() -> tenGiven(), "an 11th permit of node 16", Desks.ARGUMENT, x -> x.permit(1 << 16));
        expect.refused(() -> tenHandedBack(), "a permit after ten", Desks.STATE, x -> x.permit(1));
        Switchlog again = Desks.earthed(1);
        for (int i = 0; i < 10; i++) {
            expect.due("permit " + i + " of the same node", i, again.permit(1));
            expect.due("handBack " + i, 0, again.handBack(i));
        }
        expect.due("an 11th permit of it", "throws.IllegalStateException", Expect.outcome(() -> again.permit(1)));
    }

    private static void permitRefusesNodes() {
        expect.refused(() -> new Switchlog(), "permit(0) without nodes", Desks.ARGUMENT, desk -> desk.permit(0));
        expect.refused(() -> new Switchlog(), "permit(1) without nodes", Desks.ARGUMENT, desk -> desk.permit(1));
        for (int nodes : new int[] {0, 8, 9, 15, 1 << 16, 1 << 30, -1, -8, Integer.MIN_VALUE, Integer.MIN_VALUE + 1}) {
            expect.refused(() -> Desks.earthed(3), "permit(" + nodes + ")", Desks.ARGUMENT, desk -> desk.permit(nodes));
        }
        expect.refused(() -> Desks.withPermits(Desks.earthed(3), 7), "permit(15) of held nodes and none",
                Desks.ARGUMENT, desk -> desk.permit(15));
        for (int nodes : new int[] {-1, 1 << 16, 1 << 17, Integer.MIN_VALUE}) {
            expect.refused(() -> Desks.earthed(16), "permit(" + nodes + ") of 16", Desks.ARGUMENT,
                    desk -> desk.permit(nodes));
        }
        expect.due("permit of 3 nodes", 0, Desks.earthed(3).permit(7));
        expect.due("permit of 16 nodes", 0, Desks.earthed(16).permit((1 << 16) - 1));
    }

    private static void cannotBeGiven(String why, int nodes, int... permits) {
        expect.refused(() -> Desks.withPermits(Desks.after(Desks.feeder(true, true), "40 21 22"), permits),
                "permit of " + why, Desks.STATE, desk -> desk.permit(nodes));
    }

    private static void permitRefusesWhatCannotBeGiven() {
        cannotBeGiven("a live node", 0b001);
        cannotBeGiven("one earthed and one live", 0b101);
        cannotBeGiven("a node that is held", 0b100, 0b100);
        cannotBeGiven("one held and one not", 0b110, 0b100);
        cannotBeGiven("one of two that are held", 0b010, 0b110);
        expect.refused(() -> Desks.bare(1), "permit of a node that is not earthed", Desks.STATE, x -> x.permit(1));
        expect.refused(() -> Desks.after(Desks.bare(2), "20"), "permit of one earthed and one not", Desks.STATE,
                x -> x.permit(0b11));
        Switchlog desk = Desks.withPermits(Desks.earthed(3), 0b100, 0b010);
        expect.due("handBack(0)", 1, desk.handBack(0));
        expect.due("permit of one held still", "throws.IllegalStateException",
                Expect.outcome(() -> desk.permit(0b110)));
        expect.due("permit(0b101)", 2, desk.permit(0b101));
        expect.due("held()", 0b111, desk.held());
    }

    private static void permitHoldsSeveralNodes() {
        Switchlog desk = Desks.earthed(4);
        expect.due("permit(0b1010)", 0, desk.permit(0b1010));
        expect.due("held()", 0b1010, desk.held());
        expect.due("act(3, 1)", 2, desk.act(3, 1));
        expect.due("act(3, 3)", 2, desk.act(3, 3));
        expect.due("act(3, 0)", 0, desk.act(3, 0));
        expect.due("act(3, 2)", 0, desk.act(3, 2));
        expect.due("handBack(0)", 0, desk.handBack(0));
        expect.due("act(3, 1)", 0, desk.act(3, 1));
    }

    private static void permitHoldsNodesEarthedFromAfar() {
        Switchlog desk = Desks.after(Desks.feeder(true, true), "10 11 22");
        expect.due("permit(0b001)", 0, desk.permit(0b001));
        expect.due("held()", 0b001, desk.held());
        expect.due("act(0, 1)", 4, desk.act(0, 1));
        expect.due("log()", 3, desk.log());
    }

    private static void handBackCounts() {
        Switchlog desk = Desks.earthed(3);
        desk.permit(0b001);
        desk.permit(0b010);
        desk.permit(0b100);
        expect.due("handBack(1)", 2, desk.handBack(1));
        expect.due("held()", 0b101, desk.held());
        expect.due("handBack(2)", 1, desk.handBack(2));
        expect.due("permit(0b110)", 3, desk.permit(0b110));
        expect.due("handBack(0)", 1, desk.handBack(0));
        expect.due("handBack(3)", 0, desk.handBack(3));
        expect.due("held()", 0, desk.held());
    }

    private static void handBackRefusesInOrder() {
        expect.refused(() -> new Switchlog(), "handBack(0) with none given", Desks.INDEX, desk -> desk.handBack(0));
        for (int permit : new int[] {-1, 2, 9, 10, Integer.MIN_VALUE, Integer.MAX_VALUE}) {
            expect.refused(() -> Desks.withPermits(Desks.earthed(2), 1, 2), "handBack(" + permit + ")", Desks.INDEX,
                    desk -> desk.handBack(permit));
        }
        expect.refused(() -> tenGiven(), "handBack(10) of ten", Desks.INDEX, desk -> desk.handBack(10));
        expect.refused(() -> tenHandedBack(), "handBack(9) twice", Desks.STATE, desk -> desk.handBack(9));
        expect.refused(() -> heldAgain(), "handBack(0) with its node held again", Desks.STATE,
                desk -> desk.handBack(0));
        expect.due("handBack(1) of the later permit", 0, heldAgain().handBack(1));
    }

    private static Switchlog heldAgain() {
        Switchlog desk = Desks.withPermits(Desks.earthed(1), 1);
        desk.handBack(0);
        return Desks.withPermits(desk, 1);
    }

    private static void heldIsWhatAllPermitsHold() {
        Switchlog desk = Desks.earthed(16);
        expect.due("held() with no permit", 0, desk.held());
        desk.permit(0b11 << 14);
        expect.due("held() with one", 0b11 << 14, desk.held());
        desk.permit(0b101);
        expect.due("held() with two", 0b11 << 14 | 0b101, desk.held());
        desk.handBack(0);
        expect.due("held() with the second", 0b101, desk.held());
    }
}
