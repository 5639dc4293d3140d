import java.util.function.Supplier;

/** Promises 6 to 11: acts, their reasons, and the log. */
public final class ActsTest {
    private static final Expect expect = new Expect("ActsTest");

    public static void main(String[] args) {
        actsAreRefusedInOrder();
        reasonIsRefusedAsActBesidesTheLog();
        anActThatIsSoAlready();
        openingADisconnector();
        openingADisconnectorBesideAnotherWay();
        closingLiveToEarthed();
        closingADisconnector();
        closingADisconnectorBesideAnotherWay();
        earthingAndSources();
        actsThatTouchWhatIsHeld();
        actsBehindWhichHeldIsNotEarthed();
        theLowestReasonIsTold();
        reasonChangesNothing();
        theLogHasRoomFor200();
        takingBackInReverseOrder();
        takingBackWhatIsNotAllowed();
        loggedIsToldFromTheLatest();
        timesCountsWhatIsInTheLog();
        expect.end();
    }

    private static void act(Switchlog desk, int kind, int what, int want) {
        String call = "(" + kind + ", " + what + ") after " + desk.log() + " acts, live " + desk.live()
                + ", loaded " + desk.loaded() + ", earthed " + desk.earthed() + ", held " + desk.held();
        int log = desk.log();
        expect.due("reason" + call, want, desk.reason(kind, what));
        expect.due("act" + call, want, desk.act(kind, what));
        expect.due("log() after act" + call, want == 0 ? log + 1 : log, desk.log());
    }

    private static void refuseActsOfNothing(Supplier<Switchlog> made, int nodes, int switches) {
        for (int kind : new int[] {-1, 6, 7, -2, 100, Integer.MIN_VALUE, Integer.MAX_VALUE}) {
            for (int what : new int[] {0, -1, 1000}) {
                refuseAct(made, kind, what, Desks.ARGUMENT);
            }
        }
        for (int kind = 0; kind < 6; kind++) {
            int bound = kind < 2 ? switches : nodes;
            for (int what : new int[] {-1, bound, bound + 1, 32, Integer.MIN_VALUE, Integer.MAX_VALUE}) {
                refuseAct(made, kind, what, Desks.INDEX);
            }
        }
    }

    private static void refuseAct(Supplier<Switchlog> made, int kind, int what,
            Class<? extends RuntimeException> want) {
        String call = "(" + kind + ", " + what + ")";
        expect.refused(made, "act" + call, want, desk -> desk.act(kind, what));
        expect.refused(made, "reason" + call, want, desk -> desk.reason(kind, what));
        expect.refused(made, "times" + call, want, desk -> desk.times(kind, what));
    }

    private static void actsAreRefusedInOrder() {
        refuseActsOfNothing(() -> new Switchlog(), 0, 0);
        refuseActsOfNothing(() -> Desks.feeder(true, true), 3, 2);
        refuseActsOfNothing(() -> Desks.joined(5), 2, 5);
        refuseActsOfNothing(() -> Desks.withLog(200), 1, 0);
    }

    private static void reasonIsRefusedAsActBesidesTheLog() {
        Switchlog full = Desks.withLog(200);
        expect.due("reason(2, 0) with 200 acts", 0, full.reason(2, 0));
        expect.due("reason(3, 0) with 200 acts", 1, full.reason(3, 0));
        expect.due("times(2, 0) with 200 acts", 100, full.times(2, 0));
    }

    private static void anActThatIsSoAlready() {
        Switchlog desk = Desks.feeder(true, true);
        act(desk, 0, 0, 1);
        act(desk, 1, 0, 0);
        act(desk, 1, 0, 1);
        act(desk, 0, 0, 0);
        act(desk, 0, 0, 1);
        act(desk, 3, 1, 1);
        act(desk, 2, 1, 0);
        act(desk, 2, 1, 1);
        act(desk, 3, 1, 0);
        act(desk, 3, 1, 1);
        act(desk, 5, 0, 1);
        act(desk, 4, 0, 0);
        act(desk, 4, 0, 1);
        act(desk, 5, 0, 0);
        act(desk, 5, 0, 1);
        act(desk, 4, 1, 1);
        act(desk, 5, 1, 1);
        act(desk, 4, 2, 1);
        act(desk, 5, 2, 1);
    }

    private static void openingADisconnector() {
        Switchlog idle = Desks.after(Desks.feeder(false, false), "10 11");
        act(idle, 0, 1, 0);
        act(idle, 1, 1, 0);
        act(idle, 4, 0, 0);
        act(idle, 0, 0, 3);
        act(idle, 0, 1, 3);
        act(idle, 5, 0, 0);
        act(idle, 0, 0, 0);
        Switchlog withoutLoad = Desks.after(Desks.feeder(false, true), "10 40");
        act(withoutLoad, 0, 0, 0);
        Switchlog breaker = Desks.after(Desks.feeder(false, true), "10 11 40");
        act(breaker, 0, 0, 3);
        act(breaker, 0, 1, 0);
        act(breaker, 0, 0, 0);
        // The load lies before the disconnector, which then carries nothing but joins loaded nodes.
        Switchlog beforeIt = new Switchlog();
        beforeIt.addNode(true, true);
        beforeIt.addNode(false, false);
        beforeIt.addSwitch(0, 1, false);
        Desks.after(beforeIt, "10 40");
        act(beforeIt, 0, 0, 3);
    }

    private static void openingADisconnectorBesideAnotherWay() {
        Switchlog twin = Desks.feeder(true, false);
        twin.addSwitch(2, 1, true);
        Desks.after(twin, "10 11 12 40");
        act(twin, 0, 1, 0);
        act(twin, 1, 1, 0);
        act(twin, 0, 2, 0);
        act(twin, 0, 1, 3);
        Switchlog ring = Desks.feeder(true, false);
        ring.addSwitch(2, 0, true);
        Desks.after(ring, "10 11 12 40");
        act(ring, 0, 1, 0);
        act(ring, 1, 1, 0);
        act(ring, 0, 2, 0);
        act(ring, 0, 1, 3);
    }

    private static void closingLiveToEarthed() {
        for (boolean breaker : new boolean[] {true, false}) {
            Switchlog desk = Desks.bare(0);
            desk.addNode(true, false);
            desk.addNode(false, false);
            desk.addNode(false, false);
            desk.addNode(true, false);
            desk.addSwitch(0, 1, breaker);
            desk.addSwitch(1, 2, breaker);
            desk.addSwitch(2, 3, breaker);
            Desks.after(desk, "22 11 40");
            act(desk, 1, 0, 3);
            act(desk, 0, 1, 0);
            act(desk, 1, 0, 0);
            act(desk, 1, 1, 3);
            act(desk, 1, 2, 0);
            act(desk, 3, 2, 0);
            act(desk, 1, 1, 0);
            act(desk, 4, 3, 0);
        }
        Switchlog bothLive = Desks.bare(0);
        bothLive.addNode(true, false);
        bothLive.addNode(true, false);
        bothLive.addSwitch(0, 1, true);
        Desks.after(bothLive, "40 41");
        act(bothLive, 1, 0, 0);
        Switchlog bothEarthed = Desks.bare(2);
        bothEarthed.addSwitch(0, 1, false);
        Desks.after(bothEarthed, "20 21");
        act(bothEarthed, 1, 0, 0);
        act(bothEarthed, 0, 0, 0);
    }

    private static void closingADisconnector() {
        Switchlog dead = Desks.feeder(false, false);
        act(dead, 1, 1, 0);
        act(dead, 1, 0, 0);
        Switchlog toLoad = Desks.after(Desks.feeder(false, false), "40");
        act(toLoad, 1, 0, 0);
        act(toLoad, 1, 1, 3);
        Switchlog toSource = Desks.after(Desks.feeder(false, false), "40 11");
        act(toSource, 1, 0, 3);
        Switchlog breaker = Desks.after(Desks.feeder(true, false), "40 11");
        act(breaker, 1, 0, 0);
        // Nothing new is loaded, but the nodes that it joins would be.
        Switchlog loadedAlready = new Switchlog();
        loadedAlready.addNode(true, true);
        loadedAlready.addNode(false, false);
        loadedAlready.addSwitch(1, 0, false);
        Desks.after(loadedAlready, "40");
        act(loadedAlready, 1, 0, 3);
        Switchlog elsewhere = Desks.feeder(true, true);
        elsewhere.addNode(false, true);
        elsewhere.addNode(false, false);
        elsewhere.addSwitch(3, 4, false);
        Desks.after(elsewhere, "10 11 40");
        act(elsewhere, 1, 2, 0);
    }

    private static void closingADisconnectorBesideAnotherWay() {
        Switchlog desk = Desks.feeder(true, true);
        desk.addSwitch(0, 2, false);
        Desks.after(desk, "10 11 40");
        act(desk, 1, 2, 0);
        act(desk, 0, 1, 0);
        act(desk, 0, 2, 3);
    }

    private static void earthingAndSources() {
        Switchlog desk = Desks.after(Desks.feeder(true, true), "40 10");
        act(desk, 2, 0, 3);
        act(desk, 2, 1, 3);
        act(desk, 2, 2, 0);
        act(desk, 5, 0, 0);
        act(desk, 2, 1, 0);
        act(desk, 4, 0, 3);
        act(desk, 2, 0, 0);
        act(desk, 3, 1, 0);
        act(desk, 4, 0, 3);
        act(desk, 3, 0, 0);
        act(desk, 4, 0, 0);
    }

    /** Nodes 1 and 2 are held and earthed by node 2; switches 0 and 2 join them to the sources 0 and 3. */
    private static Switchlog heldMiddle() {
        Switchlog desk = new Switchlog();
        desk.addNode(true, false);
        desk.addNode(true, false);
        desk.addNode(false, false);
        desk.addNode(true, false);
        desk.addSwitch(0, 1, true);
        desk.addSwitch(1, 2, true);
        desk.addSwitch(2, 3, true);
        Desks.after(desk, "11 22");
        desk.permit(0b0110);
        return desk;
    }

    private static void actsThatTouchWhatIsHeld() {
        Switchlog desk = heldMiddle();
        act(desk, 1, 0, 2);
        act(desk, 1, 2, 2);
        act(desk, 0, 1, 2);
        act(desk, 2, 1, 2);
        act(desk, 3, 2, 2);
        act(desk, 4, 1, 2);
        act(desk, 4, 0, 0);
        act(desk, 5, 0, 0);
        act(desk, 2, 3, 0);
        act(desk, 3, 3, 0);
        desk.handBack(0);
        act(desk, 4, 1, 3);
        act(desk, 2, 1, 0);
        act(desk, 3, 2, 0);
        act(desk, 1, 0, 0);
    }

    private static void actsBehindWhichHeldIsNotEarthed() {
        Switchlog desk = Desks.bare(4);
        desk.addSwitch(0, 1, true);
        desk.addSwitch(1, 2, true);
        desk.addSwitch(2, 3, true);
        Desks.after(desk, "10 11 12 23");
        desk.permit(0b0001);
        act(desk, 3, 3, 4);
        act(desk, 0, 2, 4);
        act(desk, 0, 1, 4);
        act(desk, 0, 0, 2);
        act(desk, 2, 1, 0);
        act(desk, 0, 1, 0);
        act(desk, 3, 3, 0);
        act(desk, 3, 1, 4);
        desk.handBack(0);
        act(desk, 3, 1, 0);
    }

    private static void theLowestReasonIsTold() {
        Switchlog desk = heldMiddle();
        act(desk, 1, 1, 1);
        act(desk, 0, 0, 1);
        act(desk, 2, 2, 1);
        act(desk, 3, 1, 1);
        act(desk, 4, 2, 1);
        act(desk, 5, 1, 1);
        // Held and live against earthed: 2 before 3.
        Desks.after(desk, "40");
        act(desk, 1, 0, 2);
        // Held node 0 behind node 1: to close to the live node 2 is 3, though node 0 would be live.
        Switchlog behind = Desks.bare(2);
        behind.addNode(true, false);
        behind.addSwitch(0, 1, true);
        behind.addSwitch(1, 2, true);
        Desks.after(behind, "10 20 42");
        behind.permit(0b001);
        act(behind, 1, 1, 3);
        Switchlog source = Desks.bare(1);
        source.addNode(true, false);
        source.addSwitch(0, 1, true);
        Desks.after(source, "10 20");
        source.permit(0b01);
        act(source, 4, 1, 3);
    }

    private static void reasonChangesNothing() {
        Supplier<Switchlog> made =
                () -> Desks.written(Desks.after(Desks.feeder(true, false), "40 10"), "00 22");
        int[][] due = {{0, 1}, {1, 3}, {3, 3, 0}, {1, 1, 1}, {1, 1, 1}, {0, 1, 1}};
        for (int i = 0; i < due.length; i++) {
            int kind = i;
            for (int j = 0; j < due[kind].length; j++) {
                int what = j;
                expect.unchanged(made, "reason(" + kind + ", " + what + ")", "" + due[kind][what],
                        desk -> desk.reason(kind, what));
            }
        }
    }

    private static void theLogHasRoomFor200() {
        Supplier<Switchlog> full = () -> Desks.withLog(200);
        expect.refused(full, "act that is allowed, of 200", Desks.STATE, desk -> desk.act(2, 0));
        expect.refused(full, "act that is not allowed, of 200", Desks.STATE, desk -> desk.act(3, 0));
        Switchlog desk = Desks.withLog(199);
        expect.due("act that is not allowed", 1, desk.act(2, 0));
        expect.due("the 200th act", 0, desk.act(3, 0));
        expect.due("log()", 200, desk.log());
        expect.due("logged(199)", 200, desk.logged(199));
        expect.due("logged(0)", 300, desk.logged(0));
        expect.due("takeBack()", 0, desk.takeBack());
        expect.due("log()", 199, desk.log());
        expect.due("act(3, 0) after takeBack()", 0, desk.act(3, 0));
    }

    private static void takingBackInReverseOrder() {
        expect.refused(() -> Desks.feeder(true, true), "takeBack() of an empty log", Desks.STATE,
                desk -> desk.takeBack());
        String[] acts = "22 32 10 40 11 01 50 00 10".split(" ");
        for (int left = 0; left < acts.length; left++) {
            Switchlog due = Desks.feeder(true, true);
            Switchlog desk = Desks.feeder(true, true);
            for (int i = 0; i < acts.length; i++) {
                Desks.after(desk, acts[i]);
                Desks.after(due, i < left ? acts[i] : "");
            }
            for (int i = acts.length - 1; i >= left; i--) {
                expect.due("takeBack() of " + acts[i], 0, desk.takeBack());
            }
            expect.due("what is seen with " + left + " acts left", Sight.usingUp(due), Sight.usingUp(desk));
        }
        expect.refused(() -> takenBack(Desks.after(Desks.feeder(true, true), "22")), "takeBack() once more",
                Desks.STATE, desk -> desk.takeBack());
    }

    private static Switchlog takenBack(Switchlog desk) {
        desk.takeBack();
        return desk;
    }

    private static void takeBackNot(Supplier<Switchlog> made, int want) {
        expect.unchanged(made, "takeBack()", "" + want, desk -> desk.takeBack());
        Switchlog free = made.get();
        free.handBack(0);
        expect.due("takeBack() without the permit", 0, free.takeBack());
    }

    /** Only permits can stand against taking back: the rest is as the act has left it. */
    private static void takingBackWhatIsNotAllowed() {
        takeBackNot(() -> Desks.withPermits(Desks.earthed(2), 0b10), 2);
        takeBackNot(() -> Desks.withPermits(Desks.earthed(2), 0b11), 2);
        takeBackNot(() -> Desks.withPermits(Desks.after(Desks.joined(1), "10 21"), 0b01), 4);
        takeBackNot(() -> Desks.withPermits(joinedBehind(), 0b001), 4);
        takeBackNot(() -> Desks.withPermits(joinedBehind(), 0b010), 2);
        takeBackNot(() -> Desks.withPermits(joinedBehind(), 0b100), 2);
        Switchlog notTouched = Desks.withPermits(Desks.earthed(2), 0b01);
        expect.due("takeBack() of what is not held", 0, notTouched.takeBack());
        expect.due("earthed()", 0b01, notTouched.earthed());
    }

    /** Node 0 is joined to node 1, and that to node 2, which is earthed, by the latest act. */
    private static Switchlog joinedBehind() {
        Switchlog desk = Desks.bare(3);
        desk.addSwitch(0, 1, true);
        desk.addSwitch(1, 2, false);
        return Desks.after(desk, "10 22 11");
    }

    private static void loggedIsToldFromTheLatest() {
        Switchlog desk = Desks.after(Desks.feeder(true, true), "40 10 22 32");
        int[] due = {302, 202, 100, 400};
        for (int i = 0; i < due.length; i++) {
            expect.due("logged(" + i + ")", due[i], desk.logged(i));
        }
        Supplier<Switchlog> made = () -> Desks.after(Desks.feeder(true, true), "40 10 22 32");
        for (int index : new int[] {-1, 4, 5, 200, Integer.MIN_VALUE, Integer.MAX_VALUE}) {
            expect.refused(made, "logged(" + index + ")", Desks.INDEX, x -> x.logged(index));
        }
        expect.refused(() -> takenBack(made.get()), "logged(3) after takeBack()", Desks.INDEX, x -> x.logged(3));
        expect.due("logged(0) after takeBack()", 202, takenBack(made.get()).logged(0));
        expect.refused(() -> new Switchlog(), "logged(0) of a new desk", Desks.INDEX, x -> x.logged(0));
        expect.refused(() -> Desks.withLog(200), "logged(200) of 200", Desks.INDEX, x -> x.logged(200));
        Switchlog many = Desks.bare(16);
        for (int i = 0; i < 24; i++) {
            many.addSwitch(i % 16, (i + 1) % 16, true);
        }
        many.act(1, 23);
        many.act(2, 15);
        expect.due("logged(1) of switch 23", 123, many.logged(1));
        expect.due("logged(0) of node 15", 215, many.logged(0));
    }

    private static void timesCountsWhatIsInTheLog() {
        Switchlog desk = Desks.after(Desks.feeder(true, true), "10 00 10 21 31 40");
        expect.due("times(1, 0)", 2, desk.times(1, 0));
        expect.due("times(0, 0)", 1, desk.times(0, 0));
        expect.due("times(1, 1)", 0, desk.times(1, 1));
        expect.due("times(2, 1)", 1, desk.times(2, 1));
        expect.due("times(2, 0)", 0, desk.times(2, 0));
        expect.due("times(4, 0)", 1, desk.times(4, 0));
        expect.due("times(5, 0)", 0, desk.times(5, 0));
        expect.due("an act that is not allowed", 1, desk.act(1, 0));
        expect.due("times(1, 0) after it", 2, desk.times(1, 0));
        desk.takeBack();
        expect.due("times(4, 0) after takeBack()", 0, desk.times(4, 0));
        expect.due("times(5, 0) after takeBack()", 0, desk.times(5, 0));
    }
}
