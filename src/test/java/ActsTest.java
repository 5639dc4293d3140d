import java.util.function.Supplier;

/** Promises 6 to 11: acts, their reasons, and the log. */
public final class ActsTest {
    private static final Expect expect = new Expect("ActsTest");

    public static void main(String[] args) {
        anActThatIsSoAlready();
        openingADisconnector();
        openingADisconnectorBesideAnotherWay();
        closingLiveToEarthed();
        closingADisconnector();
        closingADisconnectorBesideAnotherWay();
        earthingAndSources();
        actsThatTouchWhatIsHeld();
        actsBehindWhichHeldIsNotEarthed();
        reasonChangesNothing();
        takeBackUndoesTheLatest();
        loggedIsToldFromTheLatest();
        timesCountsWhatIsInTheLog();
        expect.end();
    }

    private static void anActThatIsSoAlready() {
        Switchlog desk = Desks.feeder(true, true);
        expect.act(desk, 0, 0, 1);
        expect.act(desk, 1, 0, 0);
        expect.act(desk, 1, 0, 1);
        expect.act(desk, 0, 0, 0);
        expect.act(desk, 0, 0, 1);
        expect.act(desk, 3, 1, 1);
        expect.act(desk, 2, 1, 0);
        expect.act(desk, 2, 1, 1);
        expect.act(desk, 3, 1, 0);
        expect.act(desk, 3, 1, 1);
        expect.act(desk, 5, 0, 1);
        expect.act(desk, 4, 0, 0);
        expect.act(desk, 4, 0, 1);
        expect.act(desk, 5, 0, 0);
        expect.act(desk, 5, 0, 1);
        expect.act(desk, 4, 1, 1);
        expect.act(desk, 5, 1, 1);
        expect.act(desk, 4, 2, 1);
        expect.act(desk, 5, 2, 1);
    }

    private static void openingADisconnector() {
        Switchlog idle = Desks.after(Desks.feeder(false, false), "10 11");
        expect.act(idle, 0, 1, 0);
        expect.act(idle, 1, 1, 0);
        expect.act(idle, 4, 0, 0);
        expect.act(idle, 0, 0, 3);
        expect.act(idle, 0, 1, 3);
        expect.act(idle, 5, 0, 0);
        expect.act(idle, 0, 0, 0);
        Switchlog withoutLoad = Desks.after(Desks.feeder(false, true), "10 40");
        expect.act(withoutLoad, 0, 0, 0);
        Switchlog breaker = Desks.after(Desks.feeder(false, true), "10 11 40");
        expect.act(breaker, 0, 0, 3);
        expect.act(breaker, 0, 1, 0);
        expect.act(breaker, 0, 0, 0);
        // The load lies before the disconnector, which then carries nothing but joins loaded nodes.
        Switchlog beforeIt = new Switchlog();
        beforeIt.addNode(true, true);
        beforeIt.addNode(false, false);
        beforeIt.addSwitch(0, 1, false);
        Desks.after(beforeIt, "10 40");
        expect.act(beforeIt, 0, 0, 3);
    }

    private static void openingADisconnectorBesideAnotherWay() {
        Switchlog twin = Desks.feeder(true, false);
        twin.addSwitch(2, 1, true);
        Desks.after(twin, "10 11 12 40");
        expect.act(twin, 0, 1, 0);
        expect.act(twin, 1, 1, 0);
        expect.act(twin, 0, 2, 0);
        expect.act(twin, 0, 1, 3);
        Switchlog ring = Desks.feeder(true, false);
        ring.addSwitch(2, 0, true);
        Desks.after(ring, "10 11 12 40");
        expect.act(ring, 0, 1, 0);
        expect.act(ring, 1, 1, 0);
        expect.act(ring, 0, 2, 0);
        expect.act(ring, 0, 1, 3);
    }

    private static void closingLiveToEarthed() {
        for (boolean breaker : new boolean[] {true, false}) {
            Switchlog desk = Desks.bare(0);
            desk.addNode(true, false);
            desk.addNode(false, false);
            desk.addNode(false, false);
            desk.addNode(true, false);
            desk.addSwitch(0, 1, breaker);
            desk.addSwitch(1, 2, breaker);
            desk.addSwitch(2, 3, breaker);
            Desks.after(desk, "22 11 40");
            expect.act(desk, 1, 0, 3);
            expect.act(desk, 0, 1, 0);
            expect.act(desk, 1, 0, 0);
            expect.act(desk, 1, 1, 3);
            expect.act(desk, 1, 2, 0);
            expect.act(desk, 3, 2, 0);
            expect.act(desk, 1, 1, 0);
            expect.act(desk, 4, 3, 0);
        }
        Switchlog bothLive = Desks.bare(0);
        bothLive.addNode(true, false);
        bothLive.addNode(true, false);
        bothLive.addSwitch(0, 1, true);
        Desks.after(bothLive, "40 41");
        expect.act(bothLive, 1, 0, 0);
        Switchlog bothEarthed = Desks.bare(2);
        bothEarthed.addSwitch(0, 1, false);
        Desks.after(bothEarthed, "20 21");
        expect.act(bothEarthed, 1, 0, 0);
        expect.act(bothEarthed, 0, 0, 0);
    }

    private static void closingADisconnector() {
        Switchlog dead = Desks.feeder(false, false);
        expect.act(dead, 1, 1, 0);
        expect.act(dead, 1, 0, 0);
        Switchlog toLoad = Desks.after(Desks.feeder(false, false), "40");
        expect.act(toLoad, 1, 0, 0);
        expect.act(toLoad, 1, 1, 3);
        Switchlog toSource = Desks.after(Desks.feeder(false, false), "40 11");
        expect.act(toSource, 1, 0, 3);
        Switchlog breaker = Desks.after(Desks.feeder(true, false), "40 11");
        expect.act(breaker, 1, 0, 0);
        // Nothing new is loaded, but the nodes that it joins would be.
        Switchlog loadedAlready = new Switchlog();
        loadedAlready.addNode(true, true);
        loadedAlready.addNode(false, false);
        loadedAlready.addSwitch(1, 0, false);
        Desks.after(loadedAlready, "40");
        expect.act(loadedAlready, 1, 0, 3);
        Switchlog elsewhere = Desks.feeder(true, true);
        elsewhere.addNode(false, true);
        elsewhere.addNode(false, false);
        elsewhere.addSwitch(3, 4, false);
        Desks.after(elsewhere, "10 11 40");
        expect.act(elsewhere, 1, 2, 0);
    }

    private static void closingADisconnectorBesideAnotherWay() {
        Switchlog desk = Desks.feeder(true, true);
        desk.addSwitch(0, 2, false);
        Desks.after(desk, "10 11 40");
        expect.act(desk, 1, 2, 0);
        expect.act(desk, 0, 1, 0);
        expect.act(desk, 0, 2, 3);
    }

    private static void earthingAndSources() {
        Switchlog desk = Desks.after(Desks.feeder(true, true), "40 10");
        expect.act(desk, 2, 0, 3);
        expect.act(desk, 2, 1, 3);
        expect.act(desk, 2, 2, 0);
        expect.act(desk, 5, 0, 0);
        expect.act(desk, 2, 1, 0);
        expect.act(desk, 4, 0, 3);
        expect.act(desk, 2, 0, 0);
        expect.act(desk, 3, 1, 0);
        expect.act(desk, 4, 0, 3);
        expect.act(desk, 3, 0, 0);
        expect.act(desk, 4, 0, 0);
    }

    /** Nodes 1 and 2 are held and earthed by node 2; switches 0 and 2 join them to the sources 0 and 3. */
    private static Switchlog heldMiddle() {
        Switchlog desk = new Switchlog();
        desk.addNode(true, false);
        desk.addNode(true, false);
        desk.addNode(false, false);
        desk.addNode(true, false);
        desk.addSwitch(0, 1, true);
        desk.addSwitch(1, 2, true);
        desk.addSwitch(2, 3, true);
        Desks.after(desk, "11 22");
        desk.permit(0b0110);
        return desk;
    }

    private static void actsThatTouchWhatIsHeld() {
        Switchlog desk = heldMiddle();
        expect.act(desk, 1, 0, 2);
        expect.act(desk, 1, 2, 2);
        expect.act(desk, 0, 1, 2);
        expect.act(desk, 2, 1, 2);
        expect.act(desk, 3, 2, 2);
        expect.act(desk, 4, 1, 2);
        expect.act(desk, 4, 0, 0);
        expect.act(desk, 5, 0, 0);
        expect.act(desk, 2, 3, 0);
        expect.act(desk, 3, 3, 0);
        desk.handBack(0);
        expect.act(desk, 4, 1, 3);
        expect.act(desk, 2, 1, 0);
        expect.act(desk, 3, 2, 0);
        expect.act(desk, 1, 0, 0);
    }

    private static void actsBehindWhichHeldIsNotEarthed() {
        Switchlog desk = Desks.bare(4);
        desk.addSwitch(0, 1, true);
        desk.addSwitch(1, 2, true);
        desk.addSwitch(2, 3, true);
        Desks.after(desk, "10 11 12 23");
        desk.permit(0b0001);
        expect.act(desk, 3, 3, 4);
        expect.act(desk, 0, 2, 4);
        expect.act(desk, 0, 1, 4);
        expect.act(desk, 0, 0, 2);
        expect.act(desk, 2, 1, 0);
        expect.act(desk, 0, 1, 0);
        expect.act(desk, 3, 3, 0);
        expect.act(desk, 3, 1, 4);
        desk.handBack(0);
        expect.act(desk, 3, 1, 0);
    }

    private static void reasonChangesNothing() {
        Supplier<Switchlog> made =
                () -> Desks.written(Desks.after(Desks.feeder(true, false), "40 10"), "00 22");
        int[][] due = {{0, 1}, {1, 3}, {3, 3, 0}, {1, 1, 1}, {1, 1, 1}, {0, 1, 1}};
        for (int i = 0; i < due.length; i++) {
            int kind = i;
            for (int j = 0; j < due[kind].length; j++) {
                int what = j;
                expect.unchanged(made, "reason(" + kind + ", " + what + ")", "" + due[kind][what],
                        desk -> desk.reason(kind, what));
            }
        }
    }

    private static void loggedIsToldFromTheLatest() {
        Switchlog desk = Desks.after(Desks.feeder(true, true), "40 10 22 32");
        int[] due = {302, 202, 100, 400};
        for (int i = 0; i < due.length; i++) {
            expect.due("logged(" + i + ")", due[i], desk.logged(i));
        }
        desk.takeBack();
        expect.due("logged(0) after takeBack()", 202, desk.logged(0));
        expect.due("logged(2) after takeBack()", 400, desk.logged(2));
    }

    private static void takeBackUndoesTheLatest() {
        Switchlog desk = Desks.after(Desks.feeder(true, true), "22 32 10 40");
        expect.due("takeBack() of the source", 0, desk.takeBack());
        expect.due("live()", 0, desk.live());
        expect.due("takeBack() of the switch", 0, desk.takeBack());
        expect.due("isClosed(0)", false, desk.isClosed(0));
        expect.due("takeBack() of the earth", 0, desk.takeBack());
        expect.due("earthed()", 0b100, desk.earthed());
        expect.due("log()", 1, desk.log());
        desk.permit(0b100);
        expect.due("takeBack() of what is held", 2, desk.takeBack());
        expect.due("log()", 1, desk.log());
    }

    private static void timesCountsWhatIsInTheLog() {
        Switchlog desk = Desks.after(Desks.feeder(true, true), "10 00 10 21 31 40");
        expect.due("times(1, 0)", 2, desk.times(1, 0));
        expect.due("times(0, 0)", 1, desk.times(0, 0));
        expect.due("times(1, 1)", 0, desk.times(1, 1));
        expect.due("times(2, 1)", 1, desk.times(2, 1));
        expect.due("times(2, 0)", 0, desk.times(2, 0));
        expect.due("times(4, 0)", 1, desk.times(4, 0));
        expect.due("times(5, 0)", 0, desk.times(5, 0));
        expect.due("an act that is not allowed", 1, desk.act(1, 0));
        expect.due("times(1, 0) after it", 2, desk.times(1, 0));
        desk.takeBack();
        expect.due("times(4, 0) after takeBack()", 0, desk.times(4, 0));
        expect.due("times(5, 0) after takeBack()", 0, desk.times(5, 0));
    }
}
