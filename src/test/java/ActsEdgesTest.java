import java.util.function.Function;
import java.util.function.Supplier;

/** The edges that the document names in 'Terms' for acts and the log, and in promises 6 to 11. */
public final class ActsEdgesTest {
    private static final Expect expect = new Expect("ActsEdgesTest");

    public static void main(String[] args) {
        aKindOutOfRange();
        aSwitchOrNodeThatThereIsNot();
        theKindBeforeTheNumber();
        actWithTwoHundredActs();
        actRefusesKindAndNumberBeforeTheLog();
        onlyActLooksAtTheRoomOfTheLog();
        openASwitchThatIsClosed();
        closeASwitchThatIsOpen();
        switchOnAnEarthThatIsOff();
        switchOffAnEarthThatIsOn();
        switchOnASourceThatIsThereAndOff();
        switchOffASourceThatIsThereAndOn();
        openADisconnectorOfLoadedNodes();
        openADisconnectorBesideAnotherWay();
        closeLiveToEarthed();
        closeADisconnectorOfConnectedNodes();
        closeADisconnectorIfNeitherWouldBeLoaded();
        earthANodeThatIsNotLive();
        startASourceOfANodeThatIsNotEarthed();
        switchOffWithoutAnInterlock();
        switchesTouchBothNodes();
        earthsAndSourcesTouchTheirNode();
        onlyWhatIsHeldIsTouched();
        noHeldNodeLosesItsEarth();
        noHeldNodeBecomesLive();
        theLowestOfSeveralReasons();
        takeBackOfAnEmptyLog();
        takeBackInReverseOrder();
        takeBackByTheOppositeAct();
        takeBackOnlyWhatIsAllowed();
        takeBackOfAFullLog();
        logCountsWhatIsDone();
        loggedWithoutSuchAnAct();
        loggedTellsKindAndNumber();
        timesCountsFromNoneToAll();
        expect.end();
    }

    private static void refuse(Supplier<Switchlog> made, int kind, int what, Class<? extends RuntimeException> want) {
        String call = "(" + kind + ", " + what + ")";
        expect.refused(made, "act" + call, want, desk -> desk.act(kind, what));
        expect.refused(made, "reason" + call, want, desk -> desk.reason(kind, what));
        expect.refused(made, "times" + call, want, desk -> desk.times(kind, what));
    }

    /** Promises 6, 7, 11: "Throws IllegalArgumentException if kind is out of range", which is "0 to 5". */
    private static void aKindOutOfRange() {
        Supplier<Switchlog> made = () -> Desks.made("s l", "01b 01d", "40");
        for (int kind : new int[] {-2, -1, 6, 7}) {
            refuse(made, kind, 0, Desks.ARGUMENT);
            refuse(made, kind, 1, Desks.ARGUMENT);
        }
        for (int kind : Desks.WRAPPED) {
            refuse(made, kind, 0, Desks.ARGUMENT);
        }
        int[] due = {1, 0, 3, 1, 1, 0};
        for (int kind = 0; kind < 6; kind++) {
            expect.act(made.get(), kind, 0, due[kind]);
            expect.due("times(" + kind + ", 0)", kind == 4 ? 1 : 0, made.get().times(kind, 0));
        }
    }

    /** Promises 6, 7, 11: "Throws IndexOutOfBoundsException if there is no such switch or node". */
    private static void aSwitchOrNodeThatThereIsNot() {
        int[][] built = {{3, 2}, {2, 5}, {1, 0}, {16, 0}, {16, 24}};
        for (int[] counts : built) {
            int nodes = counts[0];
            int switches = counts[1];
            Supplier<Switchlog> made = () -> Desks.joined(nodes, switches);
            for (int kind = 0; kind < 6; kind++) {
                int bound = kind < 2 ? switches : nodes;
                refuse(made, kind, -1, Desks.INDEX);
                refuse(made, kind, bound, Desks.INDEX);
                refuse(made, kind, bound + 1, Desks.INDEX);
                if (bound > 0) {
                    int there = kind == 1 || kind == 2 ? 0 : 1;
                    expect.act(made.get(), kind, bound - 1, there);
                    expect.act(made.get(), kind, 0, there);
                }
            }
        }
        for (int kind = 0; kind < 6; kind++) {
            for (int none : Desks.WRAPPED) {
                refuse(() -> Desks.joined(3, 2), kind, none, Desks.INDEX);
            }
            refuse(() -> Desks.joined(3, 2), kind, 100, Desks.INDEX);
            refuse(() -> Desks.joined(3, 2), kind, -100, Desks.INDEX);
        }
    }

    /** Terms: "If several exceptions apply, the one that is documented first is thrown." */
    private static void theKindBeforeTheNumber() {
        for (int kind : new int[] {-1, 6}) {
            for (int what : new int[] {-1, 2, 3, 100}) {
                refuse(() -> Desks.joined(2, 1), kind, what, Desks.ARGUMENT);
                refuse(() -> new Switchlog(), kind, what, Desks.ARGUMENT);
            }
        }
    }

    /** Terms: "The log has room for 200 acts."; promise 6: "Throws IllegalStateException if the log has 200 acts". */
    private static void actWithTwoHundredActs() {
        Supplier<Switchlog> full = () -> Desks.withLog(200);
        expect.refused(full, "act that would be allowed, with 200 acts", Desks.STATE, desk -> desk.act(2, 0));
        expect.refused(full, "act that would not, with 200 acts", Desks.STATE, desk -> desk.act(3, 0));
        expect.act(Desks.withLog(198), 2, 0, 0);
        expect.act(Desks.withLog(198), 3, 0, 1);
        expect.act(Desks.withLog(199), 3, 0, 0);
        expect.act(Desks.withLog(199), 2, 0, 1);
        Switchlog desk = Desks.withLog(199);
        expect.due("act that would not be allowed, with 199 acts", 1, desk.act(2, 0));
        expect.due("act with 199 acts", 0, desk.act(3, 0));
        String thrown = Expect.thrown(Desks.STATE);
        expect.due("act with 200 acts", thrown, Expect.outcome(() -> desk.act(2, 0)));
        expect.due("act once more", thrown, Expect.outcome(() -> desk.act(2, 0)));
        expect.due("log()", 200, desk.log());
        expect.due("takeBack()", 0, desk.takeBack());
        expect.due("act with 199 acts again", 0, desk.act(3, 0));
    }

    /** Terms: "If several exceptions apply, the one that is documented first is thrown." */
    private static void actRefusesKindAndNumberBeforeTheLog() {
        Supplier<Switchlog> full = () -> Desks.withLog(200);
        for (int kind : new int[] {-1, 6}) {
            refuse(full, kind, 0, Desks.ARGUMENT);
            refuse(full, kind, 1, Desks.ARGUMENT);
        }
        for (int kind = 0; kind < 6; kind++) {
            refuse(full, kind, -1, Desks.INDEX);
            refuse(full, kind, 1, Desks.INDEX);
        }
    }

    /** Promises 7 and 11 name no IllegalStateException. */
    private static void onlyActLooksAtTheRoomOfTheLog() {
        Supplier<Switchlog> full = () -> Desks.withLog(200);
        expect.unchanged(full, "reason(2, 0) with 200 acts", "0", desk -> desk.reason(2, 0));
        expect.unchanged(full, "reason(3, 0) with 200 acts", "1", desk -> desk.reason(3, 0));
        expect.unchanged(full, "times(2, 0) with 200 acts", "100", desk -> desk.times(2, 0));
        expect.unchanged(full, "times(3, 0) with 200 acts", "100", desk -> desk.times(3, 0));
    }

    /** What is due for an act, told as at Desks.after(); what is not allowed changes nothing, as reason does not. */
    private static void due(int want, String act, String nodes, String switches, String acts, int... permits) {
        Supplier<Switchlog> made = () -> Desks.withPermits(Desks.made(nodes, switches, acts), permits);
        int kind = act.charAt(0) - '0';
        int what = act.charAt(1) - '0';
        expect.act(made.get(), kind, what, want);
        String call = "(" + kind + ", " + what + ") of " + nodes + ", " + switches + " after " + acts;
        expect.unchanged(made, "reason" + call, "" + want, desk -> desk.reason(kind, what));
        if (want != 0) {
            expect.unchanged(made, "act" + call, "" + want, desk -> desk.act(kind, what));
        }
    }

    /** Terms: "0, to open a switch, which must be closed."; promise 6: "1 if it is that already". */
    private static void openASwitchThatIsClosed() {
        for (String which : new String[] {"01b", "01d", "10b", "10d"}) {
            due(1, "00", "- -", which, "");
            due(0, "00", "- -", which, "10");
            due(1, "00", "- -", which, "10 00");
            due(0, "00", "- -", which, "10 00 10");
        }
        due(1, "00", "- -", "01b 01b", "11");
        due(0, "01", "- -", "01b 01b", "11");
    }

    /** Terms: "1, to close a switch, which must be open."; promise 6: "1 if it is that already". */
    private static void closeASwitchThatIsOpen() {
        for (String which : new String[] {"01b", "01d", "10b", "10d"}) {
            due(0, "10", "- -", which, "");
            due(1, "10", "- -", which, "10");
            due(0, "10", "- -", which, "10 00");
            due(1, "10", "- -", which, "10 00 10");
        }
        due(0, "10", "- -", "01b 01b", "11");
        due(1, "11", "- -", "01b 01b", "11");
    }

    /** Terms: "2, to switch the earth of a node on, which must be off."; promise 6: "1 if it is that already". */
    private static void switchOnAnEarthThatIsOff() {
        due(0, "20", "-", "", "");
        due(1, "20", "-", "", "20");
        due(0, "20", "-", "", "20 30");
        due(1, "20", "-", "", "20 30 20");
        // The node is earthed, but its own earth is off.
        due(0, "21", "- -", "01b", "10 20");
    }

    /** Terms: "3, to switch the earth of a node off, which must be on."; promise 6: "1 if it is that already". */
    private static void switchOffAnEarthThatIsOn() {
        due(1, "30", "-", "", "");
        due(0, "30", "-", "", "20");
        due(1, "30", "-", "", "20 30");
        due(0, "30", "-", "", "20 30 20");
        // The node is earthed, but its own earth is off.
        due(1, "31", "- -", "01b", "10 20");
    }

    /** Terms: "which must be there and off"; promise 6: "1 if it is that already, or there is no source". */
    private static void switchOnASourceThatIsThereAndOff() {
        due(0, "40", "s", "", "");
        due(0, "40", "sl", "", "");
        due(1, "40", "-", "", "");
        due(1, "40", "l", "", "");
        due(1, "40", "s", "", "40");
        due(0, "40", "s", "", "40 50");
        // The node is live already, but its own source is off, or not there.
        due(0, "41", "s s", "01b", "40 10");
        due(1, "41", "s -", "01b", "40 10");
    }

    /** Terms: "which must be there and on"; promise 6: "1 if it is that already, or there is no source". */
    private static void switchOffASourceThatIsThereAndOn() {
        due(1, "50", "s", "", "");
        due(1, "50", "-", "", "");
        due(1, "50", "l", "", "");
        due(0, "50", "s", "", "40");
        due(0, "50", "sl", "", "40");
        due(1, "50", "s", "", "40 50");
        // The node is live, but its own source is off, or not there.
        due(1, "51", "s s", "01b", "40 10");
        due(1, "51", "s -", "01b", "40 10");
    }

    /** Terms: "A disconnector may only be opened if neither of its nodes is loaded". */
    private static void openADisconnectorOfLoadedNodes() {
        due(3, "00", "s l", "01d", "10 40");
        due(3, "00", "s l", "10d", "10 40");
        due(0, "00", "s l", "01b", "10 40");
        due(0, "00", "s l", "01d", "10");
        due(0, "00", "s l", "01d", "10 40 50");
        due(0, "00", "s -", "01d", "10 40");
        due(0, "00", "- l", "01d", "10");
        due(3, "00", "sl -", "01d", "10 40");
        due(3, "00", "- sl", "01d", "10 41");
        due(3, "00", "s s l", "01d 12b", "10 11 40 41 50");
        String row = "01b 12d 23b";
        due(3, "01", "s - - l", row, "10 11 12 40");
        due(0, "01", "s - - l", row, "10 11 40");
        due(0, "01", "s - - l", row, "11 12 40");
        due(0, "01", "s - - l", row, "10 11 12 40 50");
        due(0, "01", "s - - -", row, "10 11 12 40");
    }

    /** Terms: "or if both nodes are connected over other closed switches, too". */
    private static void openADisconnectorBesideAnotherWay() {
        for (String twin : new String[] {"01b", "01d", "10b", "10d"}) {
            due(0, "00", "s l", "01d " + twin, "10 11 40");
            due(3, "00", "s l", "01d " + twin, "10 40");
            due(3, "00", "s l", "01d " + twin, "10 11 01 40");
            due(0, "01", "s l", twin + " 01d", "10 11 40");
            due(3, "01", "s l", twin + " 01d", "11 40");
        }
        String ring = "01d 12b 20b";
        due(0, "00", "s l -", ring, "10 11 12 40");
        due(3, "00", "s l -", ring, "10 11 40");
        due(3, "00", "s l -", ring, "10 12 40");
        due(3, "00", "s l - -", "01d 12b 23b 03b", "10 11 12 40");
        due(0, "00", "s l - -", "01d 12b 23b 03b", "10 11 12 13 40");
    }

    /** Terms: "No switch may be closed if one of its nodes is live and the other one is earthed." */
    private static void closeLiveToEarthed() {
        for (String which : new String[] {"01b", "01d", "10b", "10d"}) {
            due(3, "10", "s -", which, "40 21");
            due(3, "10", "- s", which, "41 20");
            due(0, "10", "s -", which, "40");
            due(0, "10", "s -", which, "21");
            due(0, "10", "s -", which, "20");
            due(0, "10", "s s", which, "40 41");
            due(0, "10", "- -", which, "20 21");
            due(0, "10", "s -", which, "");
            due(0, "10", "s -", which, "40 21 31");
            due(0, "10", "s -", which, "40 21 50");
        }
        for (String row : new String[] {"01b 12b 23b", "01b 12d 23b", "10b 21d 32b"}) {
            due(3, "11", "s - - -", row, "10 12 40 23");
            due(3, "11", "- - - s", row, "10 12 43 20");
            due(0, "11", "s - - -", row, "12 40 23");
            due(0, "11", "s - - -", row, "10 40 23");
        }
    }

    /** Terms: "A disconnector may only be closed if both nodes are connected already". */
    private static void closeADisconnectorOfConnectedNodes() {
        due(0, "11", "s l", "01b 01d", "10 40");
        due(0, "11", "s l", "01b 10d", "10 40");
        due(3, "11", "s l", "01b 01d", "40");
        due(0, "11", "s l", "01b 01b", "40");
        due(0, "12", "s - l", "01b 12b 02d", "10 11 40");
        due(3, "12", "s - l", "01b 12b 02d", "10 40");
        due(3, "12", "s - l", "01b 12b 02d", "11 40");
    }

    /** Terms: "or if neither of them would be loaded then". */
    private static void closeADisconnectorIfNeitherWouldBeLoaded() {
        for (String which : new String[] {"01d", "10d"}) {
            due(3, "10", "s l", which, "40");
            due(0, "10", "s l", which, "");
            due(0, "10", "s l", which, "40 50");
            due(0, "10", "s -", which, "40");
            due(0, "10", "- l", which, "");
            due(3, "10", "sl -", which, "40");
            due(3, "10", "sl s", which, "40 41");
            due(3, "10", "sl sl", which, "40 41");
            due(0, "10", "sl sl", which, "");
        }
        due(0, "10", "s l", "01b", "40");
        due(0, "11", "s l - -", "01b 23d", "40 10");
        due(3, "11", "s - - l", "01b 12d 23b", "10 12 40");
        due(0, "11", "s - - l", "01b 12d 23b", "10 40");
        due(0, "11", "s - - l", "01b 12d 23b", "12 40");
    }

    /** Terms: "The node must not be live." */
    private static void earthANodeThatIsNotLive() {
        due(3, "20", "s", "", "40");
        due(0, "20", "s", "", "");
        due(0, "20", "s", "", "40 50");
        due(3, "21", "s -", "01b", "40 10");
        due(0, "21", "s -", "01b", "40");
        due(0, "21", "s -", "01b", "10");
        due(0, "21", "s -", "01b", "40 10 00");
    }

    /** Terms: "The node must not be earthed." */
    private static void startASourceOfANodeThatIsNotEarthed() {
        due(3, "40", "s", "", "20");
        due(0, "40", "s", "", "20 30");
        due(3, "40", "s -", "01b", "10 21");
        due(0, "40", "s -", "01b", "21");
        due(0, "40", "s -", "01b", "10");
        due(0, "40", "s -", "01b", "10 21 00");
    }

    /** Terms: the kinds 3 and 5 have no interlock beside what "must be on" and what is held. */
    private static void switchOffWithoutAnInterlock() {
        due(0, "30", "- -", "01b", "10 20");
        due(0, "30", "- -", "01b", "10 20 21");
        due(0, "50", "s l", "01d", "10 40");
        due(0, "50", "s s", "01d", "10 40 41");
    }

    /** Terms: "An act of the kinds 0 and 1 touches both nodes of the switch"; promise 6: "2 if it touches". */
    private static void switchesTouchBothNodes() {
        for (String which : new String[] {"01b", "01d", "10b", "10d"}) {
            due(2, "10", "- - -", which, "20", 0b001);
            due(2, "10", "- - -", which, "21", 0b010);
            due(2, "10", "- - -", which, "20 21", 0b011);
            due(0, "10", "- - -", which, "22", 0b100);
            due(2, "00", "- - -", which, "10 20 21", 0b001);
            due(2, "00", "- - -", which, "10 20 21", 0b010);
            due(0, "00", "- - -", which, "10 20 21 22", 0b100);
        }
    }

    /** Terms: "the others touch their node". */
    private static void earthsAndSourcesTouchTheirNode() {
        due(2, "20", "- - -", "01b", "10 21", 0b001);
        due(0, "22", "- - -", "01b", "10 21", 0b001);
        due(0, "20", "- - -", "01b", "10 21", 0b010);
        due(2, "30", "- -", "01b", "10 20 21", 0b01);
        due(0, "31", "- -", "01b", "10 20 21", 0b01);
        due(2, "40", "s s", "01b", "20", 0b01);
        due(0, "41", "s s", "01b", "20", 0b01);
        due(0, "51", "s s", "01b", "41 20", 0b01);
    }

    /** Terms: "No act is allowed that touches a node which is held by a permit"; its part is not held with it. */
    private static void onlyWhatIsHeldIsTouched() {
        due(0, "11", "- - -", "01b 12b", "10 20", 0b001);
        due(2, "11", "- - -", "01b 12b", "10 20", 0b010);
        due(2, "11", "- - -", "01b 12b", "10 20", 0b001, 0b010);
        Supplier<Switchlog> made = () -> Desks.withPermits(Desks.made("- -", "01b", "20 21"), 0b01, 0b10);
        expect.act(made.get(), 1, 0, 2);
        Switchlog desk = made.get();
        desk.handBack(0);
        expect.act(desk, 1, 0, 2);
        expect.act(desk, 3, 0, 0);
        expect.act(desk, 3, 1, 2);
        desk.handBack(1);
        expect.act(desk, 3, 1, 0);
        expect.act(desk, 1, 0, 0);
    }

    /** Terms: "nor one behind which a node that is held is not earthed"; promise 6: "4 if a node that is held". */
    private static void noHeldNodeLosesItsEarth() {
        due(4, "31", "- -", "01b", "10 21", 0b01);
        due(0, "31", "- -", "01b", "10 20 21", 0b01);
        due(0, "31", "- -", "01b", "20 21", 0b01);
        for (String second : new String[] {"12b", "12d", "21b", "21d"}) {
            due(4, "01", "- - -", "01b " + second, "10 11 22", 0b001);
            due(0, "01", "- - -", "01b " + second, "10 11 21 22", 0b001);
            due(0, "01", "- - -", "01b " + second, "10 11 20 22", 0b001);
            due(0, "01", "- - -", "01b " + second + " 12b", "10 11 12 22", 0b001);
            due(4, "01", "- - -", "01b " + second + " 12b", "10 11 22", 0b001);
        }
        due(4, "32", "- - - -", "01b 12b", "10 11 22 23", 0b1000, 0b0001);
        due(4, "32", "- - - -", "01b 12b", "10 11 22 23", 0b1001);
        due(0, "32", "- - - -", "01b 12b", "10 11 22 23", 0b1000);
    }

    /** Terms: "or is live"; the interlocks stand before that, so the answer is 3. */
    private static void noHeldNodeBecomesLive() {
        due(3, "11", "- - s", "01b 12b", "10 20 42", 0b001);
        due(0, "11", "- - s", "01b 12b", "10 20", 0b001);
        due(3, "41", "- s", "01b", "10 20", 0b01);
        due(0, "41", "- s", "01b", "20", 0b01);
    }

    /** Promise 6: "the lowest of several reasons". */
    private static void theLowestOfSeveralReasons() {
        // 1 and 2
        due(1, "20", "-", "", "20", 0b1);
        due(1, "00", "- -", "01b", "20", 0b1);
        due(1, "10", "- -", "01b", "10 20", 0b1);
        due(1, "31", "- -", "01b", "10 20", 0b10);
        due(1, "50", "s", "", "20", 0b1);
        // 1 and 3
        due(1, "40", "-", "", "20");
        due(1, "00", "sl -", "01d", "40");
        due(1, "00", "sl sl", "01d", "40 41");
        // 1, 2 and 3
        due(1, "40", "-", "", "20", 0b1);
        // 2 and 3, 4 with them
        due(2, "10", "s -", "01b", "40 21", 0b10);
        due(2, "40", "s", "", "20", 0b1);
        due(2, "40", "s -", "01b", "10 21", 0b1);
        // 2 and 4
        due(2, "30", "-", "", "20", 0b1);
        due(2, "00", "- -", "01b", "10 21", 0b01);
        due(2, "30", "- -", "01b", "10 20", 0b11);
        // 3 and 4
        due(3, "11", "- - s", "01b 12d", "10 20 42", 0b001);
        due(3, "41", "- s", "01b", "10 20", 0b01);
    }

    private static Switchlog takenBack(Switchlog desk, int acts) {
        for (int i = 0; i < acts; i++) {
            desk.takeBack();
        }
        return desk;
    }

    /** Promise 8: "Throws IllegalStateException if the log is empty". */
    private static void takeBackOfAnEmptyLog() {
        Function<Switchlog, Object> asked = desk -> desk.takeBack();
        expect.refused(() -> Desks.bare(1), "takeBack() with no act", Desks.STATE, asked);
        expect.refused(() -> takenBack(Desks.withLog(1), 1), "takeBack() twice after one act", Desks.STATE, asked);
        expect.refused(() -> takenBack(Desks.withLog(2), 2), "takeBack() thrice after two", Desks.STATE, asked);
        expect.refused(() -> takenBack(Desks.withLog(200), 200), "takeBack() of none of 200", Desks.STATE, asked);
        Switchlog one = Desks.withLog(1);
        expect.due("takeBack() with one act", 0, one.takeBack());
        expect.due("log()", 0, one.log());
        Switchlog notAllowed = Desks.bare(1);
        expect.due("act that is not allowed", 1, notAllowed.act(3, 0));
        expect.due("takeBack() of it", Expect.thrown(Desks.STATE), Expect.outcome(() -> notAllowed.takeBack()));
        Switchlog writtenAlone = Desks.written(Desks.bare(1), "20");
        expect.due("takeBack() of what is written", Expect.thrown(Desks.STATE),
                Expect.outcome(() -> writtenAlone.takeBack()));
        expect.due("carryOut(1)", 1, writtenAlone.carryOut(1));
        expect.due("takeBack() of what is carried out", 0, writtenAlone.takeBack());
    }

    /** Terms: "the latest one that is not taken back can be taken back". */
    private static void takeBackInReverseOrder() {
        String[] acts = "22 32 10 40 11 01 50 00 10".split(" ");
        for (int i = 0; i <= acts.length; i++) {
            int left = i;
            Supplier<Switchlog> due = () -> firstActs(acts, left);
            Supplier<Switchlog> made = () -> takenBack(firstActs(acts, acts.length), acts.length - left);
            expect.due("what is seen with " + left + " acts left", Sight.of(due), Sight.of(made));
        }
        Switchlog desk = Desks.made("- - -", "", "20 21");
        expect.due("takeBack() of act(2, 1)", 0, desk.takeBack());
        expect.due("earthed()", 0b001, desk.earthed());
        expect.due("act(2, 2)", 0, desk.act(2, 2));
        expect.due("takeBack() of act(2, 2)", 0, desk.takeBack());
        expect.due("takeBack() of act(2, 0)", 0, desk.takeBack());
        expect.due("earthed()", 0, desk.earthed());
        expect.due("log()", 0, desk.log());
    }

    private static Switchlog firstActs(String[] acts, int count) {
        Switchlog desk = Desks.made("s - l", "01b 12b", "");
        for (int i = 0; i < count; i++) {
            Desks.after(desk, acts[i]);
        }
        return desk;
    }

    /** Terms: "by the opposite act (0 and 1, 2 and 3, 4 and 5 are opposite)", which "removes it from the log". */
    private static void takeBackByTheOppositeAct() {
        String[] before = {"10", "", "", "20", "", "40"};
        for (int i = 0; i < 6; i++) {
            int kind = i;
            Supplier<Switchlog> due = () -> Desks.made("s -", "01d", before[kind]);
            Supplier<Switchlog> made = () -> takenBack(Desks.after(due.get(), kind + "0"), 1);
            expect.due("what is seen with kind " + kind + " taken back", Sight.of(due), Sight.of(made));
            expect.due("times of the opposite act", Math.min(before[kind].length(), 1), made.get().times(kind ^ 1, 0));
        }
    }

    /** Terms: "which has to be allowed as any act"; promise 8: "otherwise the reason why the opposite act is not". */
    private static void takeBackOnlyWhatIsAllowed() {
        takeBackDue(0, () -> Desks.withPermits(Desks.made("- -", "", "20 21"), 0b01));
        takeBackDue(2, () -> Desks.withPermits(Desks.made("- -", "", "20 21"), 0b10));
        takeBackDue(2, () -> Desks.withPermits(Desks.made("- -", "", "20 21"), 0b11));
        takeBackDue(4, () -> Desks.withPermits(Desks.made("- -", "01b", "10 21"), 0b01));
        takeBackDue(0, () -> Desks.withPermits(Desks.made("- -", "01b", "10 20 21"), 0b01));
        takeBackDue(4, () -> Desks.withPermits(Desks.made("- - -", "01b 12d", "10 22 11"), 0b001));
        takeBackDue(2, () -> Desks.withPermits(Desks.made("- - -", "01b 12d", "10 22 11"), 0b010));
        takeBackDue(2, () -> Desks.withPermits(Desks.made("- - -", "01b 12d", "10 22 11"), 0b100));
        takeBackDue(0, () -> Desks.withPermits(Desks.made("- - -", "01b 12d", "20 22 11"), 0b001));
        Switchlog full = Desks.withPermits(Desks.withLog(199), 0b1);
        expect.due("takeBack() of 199 acts", 2, full.takeBack());
        expect.due("log()", 199, full.log());
    }

    private static void takeBackDue(int want, Supplier<Switchlog> made) {
        if (want != 0) {
            expect.unchanged(made, "takeBack()", "" + want, desk -> desk.takeBack());
            Switchlog free = made.get();
            free.handBack(0);
            expect.due("takeBack() without the permit", 0, free.takeBack());
        }
        Switchlog desk = made.get();
        int log = desk.log();
        expect.due("takeBack()", want, desk.takeBack());
        expect.due("log() after it", want == 0 ? log - 1 : log, desk.log());
    }

    /** Promise 8 names no other exception, and a full log has room for nothing more. */
    private static void takeBackOfAFullLog() {
        Switchlog desk = Desks.withLog(200);
        for (int left = 199; left >= 0; left--) {
            expect.due("takeBack() to " + left, 0, desk.takeBack());
            if (left % 5 == 0) {
                expect.due("earthed() with " + left + " left", left % 2, desk.earthed());
            }
        }
        expect.due("log()", 0, desk.log());
    }

    /** Promise 9: "Returns the number of acts in the log." */
    private static void logCountsWhatIsDone() {
        for (int acts : new int[] {0, 1, 2, 199, 200}) {
            expect.due("log() of " + acts, acts, Desks.withLog(acts).log());
        }
        Switchlog desk = Desks.written(Desks.made("s", "", ""), "20 30");
        expect.due("log() with acts that are written alone", 0, desk.log());
        desk.act(5, 0);
        expect.due("log() after an act that is not allowed", 0, desk.log());
        desk.carryOut(2);
        expect.due("log() after carryOut(2)", 2, desk.log());
        desk.takeBack();
        expect.due("log() after takeBack()", 1, desk.log());
    }

    /** Promise 10: "Throws IndexOutOfBoundsException if there is no such act". */
    private static void loggedWithoutSuchAnAct() {
        for (int i : new int[] {0, 1, 2, 199, 200}) {
            int acts = i;
            for (int index : new int[] {-1, acts, acts + 1}) {
                expect.refused(() -> Desks.withLog(acts), "logged(" + index + ") of " + acts, Desks.INDEX,
                        desk -> desk.logged(index));
            }
            if (acts > 0) {
                expect.due("logged(0) of " + acts, acts % 2 == 0 ? 300 : 200, Desks.withLog(acts).logged(0));
                expect.due("logged of the first of " + acts, 200, Desks.withLog(acts).logged(acts - 1));
            }
        }
        for (int index : Desks.WRAPPED) {
            expect.refused(() -> Desks.withLog(3), "logged(" + index + ")", Desks.INDEX, desk -> desk.logged(index));
        }
        // An act that was there once is no act of the log any more.
        expect.refused(() -> takenBack(Desks.withLog(3), 1), "logged(2) after takeBack()", Desks.INDEX,
                desk -> desk.logged(2));
        expect.due("logged(1) after takeBack()", 200, takenBack(Desks.withLog(3), 1).logged(1));
    }

    /** Promise 10: "Returns 100 times its kind plus the number", "0 for the latest one". */
    private static void loggedTellsKindAndNumber() {
        Switchlog low = Desks.made("s -", "01b", "10 00 20 30 40 50");
        int[] due = {500, 400, 300, 200, 0, 100};
        for (int index = 0; index < due.length; index++) {
            expect.due("logged(" + index + ")", due[index], low.logged(index));
        }
        Switchlog high = Desks.bare(15);
        high.addNode(true, false);
        for (int which = 0; which < 24; which++) {
            high.addSwitch(0, 1, true);
        }
        for (int kind : new int[] {1, 0}) {
            expect.due("act(" + kind + ", 23)", 0, high.act(kind, 23));
            expect.due("logged(0)", 100 * kind + 23, high.logged(0));
        }
        for (int kind = 2; kind < 6; kind++) {
            expect.due("act(" + kind + ", 15)", 0, high.act(kind, 15));
            expect.due("logged(0)", 100 * kind + 15, high.logged(0));
        }
    }

    /** Promise 11: "Returns how many times an act is in the log." */
    private static void timesCountsFromNoneToAll() {
        for (int acts : new int[] {0, 1, 2, 3, 199, 200}) {
            expect.due("times(2, 0) of " + acts, (acts + 1) / 2, Desks.withLog(acts).times(2, 0));
            expect.due("times(3, 0) of " + acts, acts / 2, Desks.withLog(acts).times(3, 0));
            expect.due("times(4, 0) of " + acts, 0, Desks.withLog(acts).times(4, 0));
        }
        Switchlog desk = Desks.written(Desks.made("- -", "01b", "20 21 10 00 10"), "20 21 30");
        int[][] due = {{1}, {2}, {1, 1}, {0, 0}, {0, 0}, {0, 0}};
        for (int kind = 0; kind < 6; kind++) {
            for (int what = 0; what < due[kind].length; what++) {
                expect.due("times(" + kind + ", " + what + ")", due[kind][what], desk.times(kind, what));
            }
        }
        desk.act(1, 0);
        expect.due("times(1, 0) after an act that is not allowed", 2, desk.times(1, 0));
        desk.takeBack();
        expect.due("times(1, 0) after takeBack()", 1, desk.times(1, 0));
        expect.due("times(0, 0) after takeBack()", 1, desk.times(0, 0));
    }
}
