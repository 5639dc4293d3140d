import java.util.function.Supplier;

/** The edges that the document names in 'Terms' for permits, and in promises 17 to 19. */
public final class PermitsEdgesTest {
    private static final Expect expect = new Expect("PermitsEdgesTest");
    private static final int ALL = (1 << 16) - 1;

    public static void main(String[] args) {
        permitOfNoNodes();
        permitOfANodeThatThereIsNot();
        permitOfTheLastNode();
        permitOfANodeThatIsNotEarthed();
        permitOfANodeThatIsLive();
        permitOfANodeThatIsHeld();
        permitWithTenGiven();
        permitsThatWereHandedBackCount();
        permitRefusesNodesBeforeTheRest();
        permitsAreNumberedFromZero();
        permitHoldsUntilItIsHandedBack();
        handBackWithoutSuchAPermit();
        handBackTwice();
        handBackCountsThoseStillHeld();
        heldOfNoneToAll();
        expect.end();
    }

    private static void refuse(Supplier<Switchlog> made, int nodes, Class<? extends RuntimeException> want) {
        expect.refused(made, "permit(" + nodes + ")", want, desk -> desk.permit(nodes));
    }

    /** So many permits were given, of one node each; the nodes 0 to 15 are earthed. */
    private static Switchlog given(int permits) {
        Switchlog desk = Desks.earthed(16);
        for (int i = 0; i < permits; i++) {
            desk.permit(1 << i);
        }
        return desk;
    }

    private static Switchlog handedBack(Switchlog desk, int... permits) {
        for (int permit : permits) {
            desk.handBack(permit);
        }
        return desk;
    }

    /** Promise 17: "Throws IllegalArgumentException if nodes has none". */
    private static void permitOfNoNodes() {
        for (int i : new int[] {0, 1, 2, 16}) {
            int nodes = i;
            refuse(() -> Desks.earthed(nodes), 0, Desks.ARGUMENT);
            if (nodes > 0) {
                expect.due("permit(1) of " + nodes, 0, Desks.earthed(nodes).permit(1));
            }
        }
    }

    /** Promise 17: "or one that there is not". */
    private static void permitOfANodeThatThereIsNot() {
        for (int i : new int[] {0, 1, 2, 3, 15, 16}) {
            int nodes = i;
            Supplier<Switchlog> made = () -> Desks.earthed(nodes);
            refuse(made, 1 << nodes, Desks.ARGUMENT);
            refuse(made, 1 << nodes + 1, Desks.ARGUMENT);
            refuse(made, 1 << nodes | 1, Desks.ARGUMENT);
            refuse(made, (1 << nodes + 1) - 1, Desks.ARGUMENT);
            refuse(made, -1, Desks.ARGUMENT);
            refuse(made, Integer.MAX_VALUE, Desks.ARGUMENT);
            refuse(made, Integer.MIN_VALUE, Desks.ARGUMENT);
            refuse(made, Integer.MIN_VALUE | 1, Desks.ARGUMENT);
            refuse(made, 1 << 30 | 1, Desks.ARGUMENT);
            refuse(made, -(1 << nodes), Desks.ARGUMENT);
        }
    }

    /** Promise 17: "the sum of 2 to the power of the number of each". */
    private static void permitOfTheLastNode() {
        for (int nodes : new int[] {1, 2, 3, 15, 16}) {
            Switchlog last = Desks.earthed(nodes);
            expect.due("permit of the last of " + nodes, 0, last.permit(1 << nodes - 1));
            expect.due("held()", 1 << nodes - 1, last.held());
            expect.act(last, 3, nodes - 1, 2);
            if (nodes > 1) {
                expect.act(last, 3, nodes - 2, 0);
            }
            Switchlog all = Desks.earthed(nodes);
            expect.due("permit of all " + nodes, 0, all.permit((1 << nodes) - 1));
            expect.due("held()", (1 << nodes) - 1, all.held());
            expect.act(all, 3, 0, 2);
            expect.act(all, 3, nodes - 1, 2);
        }
    }

    private static Supplier<Switchlog> made(String nodes, String switches, String acts, int... permits) {
        return () -> Desks.withPermits(Desks.made(nodes, switches, acts), permits);
    }

    private static void given(int permit, int nodes, Supplier<Switchlog> made) {
        Switchlog desk = made.get();
        int held = desk.held();
        expect.due("permit(" + nodes + ")", permit, desk.permit(nodes));
        expect.due("held() after permit(" + nodes + ")", held | nodes, desk.held());
    }

    /** Terms: "it can only be given if each of them is earthed". */
    private static void permitOfANodeThatIsNotEarthed() {
        refuse(made("-", "", ""), 0b1, Desks.STATE);
        given(0, 0b1, made("-", "", "20"));
        refuse(made("-", "", "20 30"), 0b1, Desks.STATE);
        refuse(made("- - -", "", "20 22"), 0b010, Desks.STATE);
        refuse(made("- - -", "", "20 22"), 0b111, Desks.STATE);
        refuse(made("- - -", "", "20 22"), 0b011, Desks.STATE);
        given(0, 0b101, made("- - -", "", "20 22"));
        given(0, 0b111, made("- - -", "", "20 21 22"));
        // Earthed from afar.
        given(0, 0b001, made("- - -", "01b 12b", "10 11 22"));
        given(0, 0b111, made("- - -", "01b 12b", "10 11 22"));
        refuse(made("- - -", "01b 12b", "10 22"), 0b001, Desks.STATE);
        refuse(made("- - -", "01b 12b", "11 22"), 0b001, Desks.STATE);
        given(0, 0b110, made("- - -", "01b 12b", "11 22"));
    }

    /** Terms: "and not live". */
    private static void permitOfANodeThatIsLive() {
        refuse(made("s -", "01b", "40 21"), 0b01, Desks.STATE);
        refuse(made("s -", "01b", "40 21"), 0b11, Desks.STATE);
        given(0, 0b10, made("s -", "01b", "40 21"));
        refuse(made("s -", "01b", "40 10"), 0b10, Desks.STATE);
        refuse(made("s -", "01b", "40 10 50"), 0b10, Desks.STATE);
        given(0, 0b11, made("s -", "01b", "40 10 50 21"));
    }

    /** Terms: "and no other permit that is held has one of them". */
    private static void permitOfANodeThatIsHeld() {
        refuse(made("- - -", "", "20 21 22", 0b001), 0b001, Desks.STATE);
        refuse(made("- - -", "", "20 21 22", 0b001), 0b011, Desks.STATE);
        refuse(made("- - -", "", "20 21 22", 0b001), 0b111, Desks.STATE);
        refuse(made("- - -", "", "20 21 22", 0b011), 0b001, Desks.STATE);
        refuse(made("- - -", "", "20 21 22", 0b011), 0b110, Desks.STATE);
        refuse(made("- - -", "", "20 21 22", 0b001, 0b100), 0b100, Desks.STATE);
        refuse(made("- - -", "", "20 21 22", 0b001, 0b100), 0b110, Desks.STATE);
        given(1, 0b010, made("- - -", "", "20 21 22", 0b001));
        given(1, 0b110, made("- - -", "", "20 21 22", 0b001));
        given(2, 0b010, made("- - -", "", "20 21 22", 0b001, 0b100));
        // Another node of the same part is not held.
        given(1, 0b10, made("- -", "01b", "10 20", 0b01));
        // A permit that was handed back holds none.
        Supplier<Switchlog> back = () -> handedBack(made("- - -", "", "20 21 22", 0b001, 0b110).get(), 0);
        given(2, 0b001, back);
        refuse(back, 0b011, Desks.STATE);
        refuse(back, 0b010, Desks.STATE);
    }

    /** Terms: "at most 10 are given in all"; promise 17: "or 10 were given". */
    private static void permitWithTenGiven() {
        given(8, 1 << 15, () -> given(8));
        given(9, 1 << 15, () -> given(9));
        refuse(() -> given(10), 1 << 10, Desks.STATE);
        refuse(() -> given(10), 1 << 15, Desks.STATE);
        refuse(() -> given(10), 1, Desks.STATE);
        Switchlog desk = given(10);
        String full = Expect.thrown(Desks.STATE);
        expect.due("permit with 10 given", full, Expect.outcome(() -> desk.permit(1 << 10)));
        expect.due("permit once more", full, Expect.outcome(() -> desk.permit(1 << 10)));
        expect.due("held()", (1 << 10) - 1, desk.held());
        expect.due("handBack(10)", Expect.thrown(Desks.INDEX), Expect.outcome(() -> desk.handBack(10)));
        expect.due("handBack(9)", 9, desk.handBack(9));
    }

    /** Terms: "at most 10 are given in all", whether they are held still or not. */
    private static void permitsThatWereHandedBackCount() {
        given(9, 1, () -> handedBack(given(9), 0));
        given(9, 1, () -> handedBack(given(9), 0, 1, 2, 3, 4, 5, 6, 7, 8));
        refuse(() -> handedBack(given(10), 0), 1, Desks.STATE);
        refuse(() -> handedBack(given(10), 9), 1 << 9, Desks.STATE);
        refuse(() -> handedBack(given(10), 0, 1, 2, 3, 4, 5, 6, 7, 8, 9), 1, Desks.STATE);
        Switchlog again = Desks.earthed(1);
        for (int i = 0; i < 10; i++) {
            expect.due("permit " + i + " of the same node", i, again.permit(1));
            expect.due("handBack " + i, 0, again.handBack(i));
        }
        expect.due("permit with 10 given", Expect.thrown(Desks.STATE), Expect.outcome(() -> again.permit(1)));
    }

    /** Terms: "If several exceptions apply, the one that is documented first is thrown." */
    private static void permitRefusesNodesBeforeTheRest() {
        for (int nodes : new int[] {0, 1 << 16, 1 << 16 | 1, ALL + 1 + ALL, -1, Integer.MIN_VALUE}) {
            refuse(() -> given(10), nodes, Desks.ARGUMENT);
        }
        // Not earthed, live, or held beside one that there is not.
        refuse(made("-", "", ""), 0b11, Desks.ARGUMENT);
        refuse(made("s", "", "40"), 0b11, Desks.ARGUMENT);
        refuse(made("-", "", "20", 0b1), 0b11, Desks.ARGUMENT);
        refuse(made("-", "", "20", 0b1), 0, Desks.ARGUMENT);
    }

    /** Terms: "Permits are numbered from 0"; promise 17: "Returns its number." */
    private static void permitsAreNumberedFromZero() {
        Switchlog desk = Desks.earthed(16);
        for (int i = 0; i < 10; i++) {
            expect.due("permit " + i, i, desk.permit(1 << 15 - i));
        }
        Switchlog refused = Desks.earthed(2);
        expect.due("permit(0)", Expect.thrown(Desks.ARGUMENT), Expect.outcome(() -> refused.permit(0)));
        expect.due("permit(1) after one that was refused", 0, refused.permit(1));
        expect.due("permit(1) once more", Expect.thrown(Desks.STATE), Expect.outcome(() -> refused.permit(1)));
        expect.due("permit(2) after another one", 1, refused.permit(2));
    }

    /** Terms: "A permit is held from when it is given until it is handed back." */
    private static void permitHoldsUntilItIsHandedBack() {
        Switchlog desk = Desks.earthed(2);
        expect.act(desk, 3, 0, 0);
        expect.act(desk, 2, 0, 0);
        desk.permit(0b01);
        expect.act(desk, 3, 0, 2);
        expect.act(desk, 3, 1, 0);
        expect.act(desk, 2, 1, 0);
        desk.permit(0b10);
        expect.act(desk, 3, 1, 2);
        desk.handBack(0);
        expect.act(desk, 3, 0, 0);
        expect.act(desk, 3, 1, 2);
        desk.handBack(1);
        expect.act(desk, 3, 1, 0);
    }

    private static void refuseHandBack(Supplier<Switchlog> made, int permit, Class<? extends RuntimeException> want) {
        expect.refused(made, "handBack(" + permit + ")", want, desk -> desk.handBack(permit));
    }

    /** Promise 18: "Throws IndexOutOfBoundsException if no such permit was given". */
    private static void handBackWithoutSuchAPermit() {
        for (int i : new int[] {0, 1, 2, 9, 10}) {
            int count = i;
            for (int permit : new int[] {-1, count, count + 1}) {
                refuseHandBack(() -> given(count), permit, Desks.INDEX);
            }
            if (count > 0) {
                expect.due("handBack(0) of " + count, count - 1, given(count).handBack(0));
                expect.due("handBack of the last of " + count, count - 1, given(count).handBack(count - 1));
            }
        }
        for (int permit : Desks.WRAPPED) {
            refuseHandBack(() -> given(2), permit, Desks.INDEX);
        }
        refuseHandBack(() -> handedBack(given(1), 0), 1, Desks.INDEX);
        refuseHandBack(() -> handedBack(given(1), 0), -1, Desks.INDEX);
    }

    /** Promise 18: "Throws IllegalStateException if it was handed back". */
    private static void handBackTwice() {
        refuseHandBack(() -> handedBack(given(1), 0), 0, Desks.STATE);
        refuseHandBack(() -> handedBack(given(2), 0), 0, Desks.STATE);
        refuseHandBack(() -> handedBack(given(2), 1), 1, Desks.STATE);
        refuseHandBack(() -> handedBack(given(10), 9), 9, Desks.STATE);
        refuseHandBack(() -> handedBack(given(10), 0, 1, 2, 3, 4, 5, 6, 7, 8, 9), 0, Desks.STATE);
        expect.due("handBack(1) beside one handed back", 0, handedBack(given(2), 0).handBack(1));
        // Its node is held again, but by another permit.
        Supplier<Switchlog> again = () -> Desks.withPermits(handedBack(given(1), 0), 1);
        refuseHandBack(again, 0, Desks.STATE);
        expect.due("handBack(1) of the later permit", 0, again.get().handBack(1));
    }

    /** Promise 18: "Returns how many permits are still held." */
    private static void handBackCountsThoseStillHeld() {
        Switchlog desk = given(10);
        for (int i = 0; i < 10; i++) {
            int permit = i * 3 % 10;
            expect.due("handBack(" + permit + ")", 9 - i, desk.handBack(permit));
        }
        Switchlog between = Desks.earthed(3);
        between.permit(0b001);
        between.permit(0b110);
        expect.due("handBack(1)", 1, between.handBack(1));
        between.permit(0b010);
        between.permit(0b100);
        expect.due("handBack(0)", 2, between.handBack(0));
        expect.due("handBack(3)", 1, between.handBack(3));
        expect.due("handBack(2)", 0, between.handBack(2));
    }

    /** Promise 19: "Returns all nodes that are held, as a sum". */
    private static void heldOfNoneToAll() {
        expect.due("held() with no permit", 0, Desks.earthed(16).held());
        expect.due("held() with node 0", 1, Desks.withPermits(Desks.earthed(16), 1).held());
        expect.due("held() with node 15", 1 << 15, Desks.withPermits(Desks.earthed(16), 1 << 15).held());
        expect.due("held() with all in one", ALL, Desks.withPermits(Desks.earthed(16), ALL).held());
        Switchlog two = Desks.withPermits(Desks.earthed(16), 0xFF00, 0x00FF);
        expect.due("held() with all in two", ALL, two.held());
        two.handBack(0);
        expect.due("held() with one handed back", 0x00FF, two.held());
        two.handBack(1);
        expect.due("held() with both handed back", 0, two.held());
        Switchlog part = made("- -", "01b", "10 20", 0b01).get();
        expect.due("held() of a part with one node held", 0b01, part.held());
        expect.due("held() after one that was refused", 0b01, heldAfterARefusal(part));
    }

    private static int heldAfterARefusal(Switchlog desk) {
        Expect.outcome(() -> desk.permit(0b11));
        return desk.held();
    }
}
