import java.util.function.Supplier;

/** The edges that the document names in 'Terms' for sequences, and in promises 12 to 16. */
public final class SequencesEdgesTest {
    private static final Expect expect = new Expect("SequencesEdgesTest");

    public static void main(String[] args) {
        theSequenceIsEmptyAtFirst();
        writeWithAKindOutOfRange();
        writeWithoutSuchASwitchOrNode();
        writeWithTheKindBeforeTheNumber();
        writeWithThirtyActs();
        writeRefusesKindAndNumberBeforeThirty();
        writeAtTheEnd();
        writeTakesWhatIsNotAllowed();
        eraseOfNoneToThirty();
        checkOfNoneToThirty();
        checkTellsTheFirstThatIsNotAllowed();
        checkOfEachReason();
        checkGoesOnFromWhatIsDoneInThought();
        checkStartsFromHowThingsAre();
        checkHasNoEyeForTheLog();
        carryOutOfActsOutOfRange();
        carryOutUntilSoManyAreDone();
        carryOutUntilOneIsNotAllowed();
        carryOutRemovesWhatIsDone();
        carryOutWithoutRoomInTheLog();
        carryOutOfFewerThanAsked();
        carryOutCountsWhatWouldNotBeAllowed();
        carryOutRefusesActsBeforeTheLog();
        writeBackOfNoneToThirty();
        writeBackInPlaceOfWhatThereIs();
        writeBackFromTheLatestOn();
        writeBackLeavesTheLog();
        expect.end();
    }

    private static final String FULL = Expect.thrown(Desks.STATE);

    /** The earth of node 0 in turn: on, off, on and so on; each of these acts is allowed where it stands. */
    private static Switchlog inTurn(Switchlog desk, int acts) {
        int first = desk.earthed() & 1;
        for (int i = first; i < first + acts; i++) {
            desk.write(i % 2 == 0 ? 2 : 3, 0);
        }
        return desk;
    }

    /** Terms: "one sequence of at most 30, which is empty at first". */
    private static void theSequenceIsEmptyAtFirst() {
        expect.due("erase() at first", 0, Desks.bare(1).erase());
        expect.due("check() at first", 0, Desks.bare(1).check());
        expect.due("carryOut(30) at first", 0, Desks.bare(1).carryOut(30));
        expect.due("write(2, 0) at first", 1, Desks.bare(1).write(2, 0));
    }

    private static void refuseWrite(Supplier<Switchlog> made, int kind, int what,
            Class<? extends RuntimeException> want) {
        expect.refused(made, "write(" + kind + ", " + what + ")", want, desk -> desk.write(kind, what));
    }

    /** Promise 12: "Throws IllegalArgumentException if kind is out of range", which is "0 to 5". */
    private static void writeWithAKindOutOfRange() {
        Supplier<Switchlog> made = () -> Desks.written(Desks.joined(2, 1), "10 20");
        for (int kind : new int[] {-2, -1, 6, 7}) {
            refuseWrite(made, kind, 0, Desks.ARGUMENT);
        }
        for (int kind : Desks.WRAPPED) {
            refuseWrite(made, kind, 0, Desks.ARGUMENT);
        }
        for (int kind = 0; kind < 6; kind++) {
            expect.due("write(" + kind + ", 0)", 3, made.get().write(kind, 0));
        }
    }

    /** Promise 12: "Throws IndexOutOfBoundsException if there is no such switch or node". */
    private static void writeWithoutSuchASwitchOrNode() {
        int[][] built = {{3, 2}, {2, 5}, {1, 0}, {16, 24}};
        for (int[] counts : built) {
            Supplier<Switchlog> made = () -> Desks.written(Desks.joined(counts[0], counts[1]), "20");
            for (int kind = 0; kind < 6; kind++) {
                int bound = kind < 2 ? counts[1] : counts[0];
                refuseWrite(made, kind, -1, Desks.INDEX);
                refuseWrite(made, kind, bound, Desks.INDEX);
                refuseWrite(made, kind, bound + 1, Desks.INDEX);
                if (bound > 0) {
                    expect.due("write(" + kind + ", 0)", 2, made.get().write(kind, 0));
                    expect.due("write(" + kind + ", last)", 2, made.get().write(kind, bound - 1));
                }
            }
        }
        for (int kind = 0; kind < 6; kind++) {
            for (int none : Desks.WRAPPED) {
                refuseWrite(() -> Desks.joined(3, 2), kind, none, Desks.INDEX);
            }
            refuseWrite(() -> Desks.joined(3, 2), kind, 100, Desks.INDEX);
        }
    }

    /** Terms: "If several exceptions apply, the one that is documented first is thrown." */
    private static void writeWithTheKindBeforeTheNumber() {
        for (int kind : new int[] {-1, 6}) {
            for (int what : new int[] {-1, 1, 2, 100}) {
                refuseWrite(() -> Desks.joined(2, 1), kind, what, Desks.ARGUMENT);
                refuseWrite(() -> new Switchlog(), kind, what, Desks.ARGUMENT);
            }
        }
    }

    /** Promise 12: "Throws IllegalStateException if the sequence has 30 acts". */
    private static void writeWithThirtyActs() {
        expect.due("write with 28 acts", 29, inTurn(Desks.bare(1), 28).write(2, 0));
        expect.due("write with 29 acts", 30, inTurn(Desks.bare(1), 29).write(3, 0));
        Supplier<Switchlog> thirty = () -> inTurn(Desks.bare(1), 30);
        for (int kind = 2; kind < 6; kind++) {
            refuseWrite(thirty, kind, 0, Desks.STATE);
        }
        Switchlog desk = thirty.get();
        expect.due("write with 30 acts", FULL, Expect.outcome(() -> desk.write(2, 0)));
        expect.due("write once more", FULL, Expect.outcome(() -> desk.write(2, 0)));
        expect.due("check()", 30, desk.check());
        expect.due("carryOut(1)", 1, desk.carryOut(1));
        expect.due("write with 29 acts", 30, desk.write(2, 0));
        expect.due("write with 30 acts again", FULL, Expect.outcome(() -> desk.write(2, 0)));
        expect.due("erase()", 30, desk.erase());
        expect.due("write after erase()", 1, desk.write(2, 0));
    }

    /** Terms: "If several exceptions apply, the one that is documented first is thrown." */
    private static void writeRefusesKindAndNumberBeforeThirty() {
        Supplier<Switchlog> thirty = () -> inTurn(Desks.bare(1), 30);
        for (int kind : new int[] {-1, 6}) {
            refuseWrite(thirty, kind, 0, Desks.ARGUMENT);
            refuseWrite(thirty, kind, 1, Desks.ARGUMENT);
        }
        for (int kind = 0; kind < 6; kind++) {
            refuseWrite(thirty, kind, -1, Desks.INDEX);
            refuseWrite(thirty, kind, 1, Desks.INDEX);
        }
    }

    /** Promise 12: "Writes an act at the end of the sequence."; "Returns how many acts the sequence has then." */
    private static void writeAtTheEnd() {
        Switchlog desk = new Switchlog();
        for (int node = 0; node < 16; node++) {
            desk.addNode(true, false);
        }
        for (int i = 0; i < 30; i++) {
            expect.due("write " + i, i + 1, desk.write(i < 15 ? 2 : 3, i % 15));
        }
        expect.due("log() with acts that are written alone", 0, desk.log());
        expect.due("earthed() with acts that are written alone", 0, desk.earthed());
        expect.due("carryOut(30)", 30, desk.carryOut(30));
        for (int i = 0; i < 30; i++) {
            expect.due("act " + i, i < 15 ? 200 + i : 300 + i % 15, desk.logged(29 - i));
        }
    }

    /** Promise 12 names no exception for an act that is not allowed. */
    private static void writeTakesWhatIsNotAllowed() {
        Switchlog desk = Desks.withPermits(Desks.made("s -", "01b", "20"), 0b1);
        String[] acts = {"00", "10", "21", "40", "50", "30"};
        for (int i = 0; i < acts.length; i++) {
            expect.due("write " + acts[i], i + 1, desk.write(acts[i].charAt(0) - '0', acts[i].charAt(1) - '0'));
        }
        expect.due("check()", 0, desk.check());
        expect.due("erase()", 6, desk.erase());
    }

    /** Promise 13: "Empties the sequence. Returns how many acts it had." */
    private static void eraseOfNoneToThirty() {
        for (int acts : new int[] {0, 1, 2, 29, 30}) {
            Switchlog desk = inTurn(Desks.bare(1), acts);
            expect.due("erase() of " + acts, acts, desk.erase());
            expect.due("erase() again", 0, desk.erase());
            expect.due("check()", 0, desk.check());
            expect.due("carryOut(30)", 0, desk.carryOut(30));
            expect.due("log()", 0, desk.log());
            expect.due("write(2, 0)", 1, desk.write(2, 0));
        }
    }

    /** Promise 14: "the number of its acts if all would be" allowed. */
    private static void checkOfNoneToThirty() {
        for (int i : new int[] {0, 1, 2, 29, 30}) {
            int acts = i;
            expect.unchanged(() -> inTurn(Desks.bare(1), acts), "check() of " + acts, "" + acts, desk -> desk.check());
        }
    }

    /** Promise 14: "Returns the number of its first act that would not be allowed, from 0". */
    private static void checkTellsTheFirstThatIsNotAllowed() {
        for (int i : new int[] {0, 1, 2, 28, 29}) {
            int before = i;
            for (int behind : new int[] {0, 1, 29 - before}) {
                if (before + 1 + behind <= 30) {
                    Supplier<Switchlog> made = () -> notAllowedAfter(before, behind);
                    String call = "check() with " + before + " before and " + behind + " behind";
                    expect.unchanged(made, call, "" + before, desk -> desk.check());
                }
            }
        }
        // Two that are not allowed: the first one is told.
        expect.due("check()", 1, Desks.written(Desks.bare(2), "20 20 30 31").check());
        expect.due("check()", 0, Desks.written(Desks.bare(2), "30 20 30 31").check());
    }

    /** An act of a source that there is not, between acts that are allowed. */
    private static Switchlog notAllowedAfter(int before, int behind) {
        Switchlog desk = inTurn(Desks.bare(1), before);
        desk.write(4, 0);
        for (int i = before; i < before + behind; i++) {
            desk.write(i % 2 == 0 ? 2 : 3, 0);
        }
        return desk;
    }

    private static void checkDue(int want, String written, String nodes, String switches, String acts, int... permits) {
        Supplier<Switchlog> made =
                () -> Desks.written(Desks.withPermits(Desks.made(nodes, switches, acts), permits), written);
        expect.unchanged(made, "check() of " + written + " after " + acts, "" + want, desk -> desk.check());
    }

    /** Promise 14: "would not be allowed", which is told at act for four reasons. */
    private static void checkOfEachReason() {
        checkDue(1, "20 20", "-", "", "");
        checkDue(1, "20 40", "-", "", "");
        checkDue(2, "20 30", "-", "", "");
        checkDue(1, "21 30", "- -", "", "20", 0b1);
        checkDue(2, "21 31", "- -", "", "20", 0b1);
        checkDue(1, "40 11", "s -", "01b 01d", "21");
        checkDue(2, "40 10 10", "s -", "01b", "");
        checkDue(2, "40 10 20", "s -", "01b", "");
        checkDue(3, "40 10 00 20", "s l", "01b", "");
        checkDue(1, "40 10", "s l", "01d", "");
        checkDue(2, "10 40 00", "s l", "01d", "");
        checkDue(4, "10 40 50 00", "s l", "01d", "");
        checkDue(1, "22 31", "- - -", "01b", "10 21", 0b1);
        checkDue(2, "22 31", "- - -", "01b", "10 21");
    }

    /** Terms: "doing its acts in thought, one after the other"; what was before does not count then. */
    private static void checkGoesOnFromWhatIsDoneInThought() {
        checkDue(1, "20 40", "s", "", "");
        checkDue(2, "30 40", "s", "", "20");
        checkDue(1, "40 20", "s", "", "");
        checkDue(2, "50 20", "s", "", "40");
        checkDue(2, "21 40 10", "s -", "01b", "");
        checkDue(3, "31 40 10", "s -", "01b", "21");
        checkDue(2, "40 21 10", "s -", "01b", "");
        checkDue(3, "50 21 10", "s -", "01b", "40");
        checkDue(3, "10 40 11", "s l", "01b 01d", "");
        checkDue(2, "00 40 11", "s l", "01b 01d", "10");
        checkDue(4, "10 11 40 00", "s l", "01d 01d", "");
        checkDue(2, "01 40 00", "s l", "01d 01d", "10 11");
        checkDue(2, "10 31", "- -", "01b", "20 21");
        checkDue(2, "21 30", "- - -", "01b 12b", "10 11 20", 0b100);
        checkDue(0, "30 21", "- - -", "01b 12b", "10 11 20", 0b100);
        checkDue(2, "21 30 31", "- - -", "01b 12b", "10 11 20", 0b100);
    }

    /** Terms: "from how things are". */
    private static void checkStartsFromHowThingsAre() {
        Switchlog desk = Desks.written(Desks.bare(1), "20 30 20");
        expect.due("check() with the earth off", 3, desk.check());
        expect.due("check() again", 3, desk.check());
        desk.act(2, 0);
        expect.due("check() with the earth on", 0, desk.check());
        desk.act(3, 0);
        expect.due("check() with the earth off again", 3, desk.check());
        Switchlog held = Desks.written(Desks.bare(2), "20 21 30");
        expect.due("check() with none held", 3, held.check());
        held.act(2, 1);
        held.permit(0b10);
        expect.due("check() with node 1 earthed and held", 1, held.check());
    }

    /** Promise 14 names no exception, and whether the log has room is no question of what is allowed. */
    private static void checkHasNoEyeForTheLog() {
        for (int log : new int[] {170, 171, 199, 200}) {
            expect.due("check() with " + log + " acts in the log", 30, inTurn(Desks.withLog(log), 30).check());
        }
    }

    private static void refuseCarryOut(Supplier<Switchlog> made, int acts, Class<? extends RuntimeException> want) {
        expect.refused(made, "carryOut(" + acts + ")", want, desk -> desk.carryOut(acts));
    }

    /** Promise 15: "at most how many, 1 to 30"; "Throws IllegalArgumentException if acts is out of range". */
    private static void carryOutOfActsOutOfRange() {
        for (int i : new int[] {0, 1, 30}) {
            int written = i;
            Supplier<Switchlog> made = () -> inTurn(Desks.bare(1), written);
            for (int acts : new int[] {-1, 0, 31, 32}) {
                refuseCarryOut(made, acts, Desks.ARGUMENT);
            }
            for (int acts : Desks.WRAPPED) {
                refuseCarryOut(made, acts, Desks.ARGUMENT);
            }
            expect.due("carryOut(1) of " + written, Math.min(written, 1), made.get().carryOut(1));
            expect.due("carryOut(2) of " + written, Math.min(written, 2), made.get().carryOut(2));
            expect.due("carryOut(29) of " + written, Math.min(written, 29), made.get().carryOut(29));
            expect.due("carryOut(30) of " + written, written, made.get().carryOut(30));
        }
    }

    /** Promise 15: "Does acts of the sequence from its beginning, until so many are done". */
    private static void carryOutUntilSoManyAreDone() {
        for (int acts = 1; acts <= 30; acts++) {
            for (int written : new int[] {acts - 1, acts, acts + 1, 30}) {
                if (written > 30) {
                    continue;
                }
                Switchlog desk = inTurn(Desks.bare(1), written);
                int due = Math.min(acts, written);
                expect.due("carryOut(" + acts + ") of " + written, due, desk.carryOut(acts));
                expect.due("log()", due, desk.log());
                expect.due("earthed()", due % 2, desk.earthed());
                expect.due("check() of the rest", written - due, desk.check());
                expect.due("erase() of the rest", written - due, desk.erase());
            }
        }
    }

    /** Promise 15: "or the next one is not allowed". */
    private static void carryOutUntilOneIsNotAllowed() {
        for (int before : new int[] {0, 1, 2, 28, 29}) {
            for (int acts : new int[] {1, Math.max(before, 1), before + 1, 30}) {
                Switchlog desk = notAllowedAfter(before, 29 - before);
                int due = Math.min(acts, before);
                String call = "carryOut(" + acts + ") with " + before + " before one that is not allowed";
                expect.due(call, due, desk.carryOut(acts));
                expect.due("log() after " + call, due, desk.log());
                expect.due("check() after " + call, before - due, desk.check());
                expect.due("erase() after " + call, 30 - due, desk.erase());
            }
        }
        expect.unchanged(() -> notAllowedAfter(0, 2), "carryOut(3) at one that is not allowed", "0",
                desk -> desk.carryOut(3));
        expect.unchanged(() -> Desks.written(Desks.withPermits(Desks.made("- -", "", "20"), 0b1), "30 21"),
                "carryOut(2) at a node that is held", "0", desk -> desk.carryOut(2));
    }

    /** Promise 15: "those that are done are removed from it". */
    private static void carryOutRemovesWhatIsDone() {
        Switchlog desk = Desks.written(Desks.made("- - - -", "", ""), "20 21 22 30 23");
        expect.due("carryOut(1)", 1, desk.carryOut(1));
        expect.due("logged(0)", 200, desk.logged(0));
        expect.due("carryOut(2)", 2, desk.carryOut(2));
        expect.due("logged(0)", 202, desk.logged(0));
        expect.due("logged(1)", 201, desk.logged(1));
        expect.due("write(3, 1) at the end of the rest", 3, desk.write(3, 1));
        expect.due("carryOut(30)", 3, desk.carryOut(30));
        expect.due("logged(0)", 301, desk.logged(0));
        expect.due("logged(1)", 203, desk.logged(1));
        expect.due("logged(2)", 300, desk.logged(2));
        expect.due("carryOut(30) of none", 0, desk.carryOut(30));
        expect.due("log()", 6, desk.log());
    }

    /** Promise 15: "Throws IllegalStateException if the log would have more than 200 acts". */
    private static void carryOutWithoutRoomInTheLog() {
        for (int i : new int[] {1, 2, 29, 30}) {
            int room = i;
            int log = 200 - room;
            Supplier<Switchlog> made = () -> inTurn(Desks.withLog(log), 30);
            if (room < 30) {
                refuseCarryOut(made, room + 1, Desks.STATE);
                refuseCarryOut(made, 30, Desks.STATE);
            }
            Switchlog desk = made.get();
            expect.due("carryOut(" + room + ") with " + log + " acts in the log", room, desk.carryOut(room));
            expect.due("log()", 200, desk.log());
            expect.due("erase()", 30 - room, desk.erase());
            if (room > 1) {
                expect.due("carryOut(" + (room - 1) + ")", room - 1, made.get().carryOut(room - 1));
            }
        }
        Supplier<Switchlog> full = () -> inTurn(Desks.withLog(200), 1);
        refuseCarryOut(full, 1, Desks.STATE);
        refuseCarryOut(full, 30, Desks.STATE);
        Switchlog desk = full.get();
        expect.due("carryOut(1) with a full log", FULL, Expect.outcome(() -> desk.carryOut(1)));
        desk.takeBack();
        desk.erase();
        desk.write(3, 0);
        expect.due("carryOut(1) with room for one", 1, desk.carryOut(1));
    }

    /** Promise 15: "or all of them if it has fewer". */
    private static void carryOutOfFewerThanAsked() {
        for (int i : new int[] {0, 1, 2, 29}) {
            int written = i;
            int log = 200 - written;
            Switchlog desk = inTurn(Desks.withLog(log), written);
            expect.due("carryOut(30) of " + written + " with room for them", written, desk.carryOut(30));
            expect.due("log()", 200, desk.log());
            expect.due("erase()", 0, desk.erase());
            if (written > 0) {
                refuseCarryOut(() -> inTurn(Desks.withLog(log + 1), written), 30, Desks.STATE);
                refuseCarryOut(() -> inTurn(Desks.withLog(log + 1), written), written, Desks.STATE);
                Switchlog more = inTurn(Desks.withLog(log - 1), written);
                expect.due("carryOut(30) of " + written + " with room for one more", written, more.carryOut(30));
                expect.due("log()", 199, more.log());
            }
        }
        expect.unchanged(() -> Desks.withLog(200), "carryOut(1) of none with a full log", "0", x -> x.carryOut(1));
        expect.unchanged(() -> Desks.withLog(200), "carryOut(30) of none with a full log", "0", x -> x.carryOut(30));
    }

    /** Promise 15: "if so many acts of the sequence [..] were done", whether they would be allowed or not. */
    private static void carryOutCountsWhatWouldNotBeAllowed() {
        Supplier<Switchlog> made = () -> Desks.written(Desks.withLog(199), "20 20");
        refuseCarryOut(made, 2, Desks.STATE);
        refuseCarryOut(made, 30, Desks.STATE);
        expect.unchanged(made, "carryOut(1) with room for one", "0", desk -> desk.carryOut(1));
        refuseCarryOut(() -> Desks.written(Desks.withLog(200), "30"), 1, Desks.STATE);
        Switchlog room = Desks.written(Desks.withLog(198), "30 20");
        expect.due("carryOut(2) with room for two", 0, room.carryOut(2));
    }

    /** Terms: "If several exceptions apply, the one that is documented first is thrown." */
    private static void carryOutRefusesActsBeforeTheLog() {
        for (int acts : new int[] {-1, 0, 31, 32, Integer.MIN_VALUE, Integer.MAX_VALUE}) {
            refuseCarryOut(() -> inTurn(Desks.withLog(200), 3), acts, Desks.ARGUMENT);
            refuseCarryOut(() -> inTurn(Desks.withLog(199), 3), acts, Desks.ARGUMENT);
        }
    }

    /** Promise 16: "for all acts of the log [..] at most 30 of them", "Returns how many acts the sequence has then." */
    private static void writeBackOfNoneToThirty() {
        for (int log : new int[] {0, 1, 2, 29, 30, 31, 32, 169, 170, 199, 200}) {
            Switchlog desk = Desks.withLog(log);
            int due = Math.min(log, 30);
            expect.due("writeBack() of " + log, due, desk.writeBack());
            expect.due("check() of " + log, due, desk.check());
            String more = due == 30 ? FULL : String.valueOf(due + 1);
            expect.due("write after writeBack() of " + log, more, Expect.outcome(() -> desk.write(2, 0)));
        }
    }

    /** Promise 16: "Writes a sequence in place of the one that there is". */
    private static void writeBackInPlaceOfWhatThereIs() {
        for (int written : new int[] {0, 1, 2, 3, 30}) {
            for (int log : new int[] {0, 1, 2, 30}) {
                Switchlog desk = inTurn(Desks.withLog(log), written);
                String call = "writeBack() of " + log + " in place of " + written;
                expect.due(call, log, desk.writeBack());
                expect.due("check() after " + call, log, desk.check());
                expect.due("writeBack() again", log, desk.writeBack());
                expect.due("erase() after " + call, log, desk.erase());
            }
        }
        Switchlog desk = Desks.written(Desks.made("- -", "", "21"), "20 30 20");
        expect.due("writeBack()", 1, desk.writeBack());
        expect.due("carryOut(30)", 1, desk.carryOut(30));
        expect.due("logged(0)", 301, desk.logged(0));
    }

    /** Promise 16: "from the latest one on, the opposite act, at most 30 of them". */
    private static void writeBackFromTheLatestOn() {
        Switchlog all = Desks.made("s -", "01b", "10 00 20 30 40 50");
        expect.due("writeBack()", 6, all.writeBack());
        expect.due("carryOut(30)", 6, all.carryOut(30));
        int[] due = {0, 100, 300, 200, 500, 400};
        for (int i = 0; i < due.length; i++) {
            expect.due("logged(" + i + ")", due[i], all.logged(i));
        }
        for (int acts : new int[] {29, 30, 31, 32}) {
            Switchlog desk = withDifferentActs(acts);
            int count = Math.min(acts, 30);
            expect.due("writeBack() of " + acts, count, desk.writeBack());
            expect.due("carryOut(30) of " + acts, count, desk.carryOut(30));
            for (int i = 0; i < count; i++) {
                expect.due("act " + i + " written back of " + acts,
                        opposite(desk.logged(count + i)), desk.logged(count - 1 - i));
            }
            expect.due("earthed() of the acts that are left of " + acts, (1 << acts - count) - 1, desk.earthed());
        }
    }

    /** First earths are switched on, then switches closed, no act twice. */
    private static Switchlog withDifferentActs(int acts) {
        Switchlog desk = Desks.joined(16, 24);
        for (int i = 0; i < acts; i++) {
            expect.due("act " + i + " of " + acts, 0, i < 16 ? desk.act(2, i) : desk.act(1, i - 16));
        }
        return desk;
    }

    private static int opposite(int act) {
        return act / 100 % 2 == 0 ? act + 100 : act - 100;
    }

    /** Promise 16: "Writes a sequence", and does nothing of it. */
    private static void writeBackLeavesTheLog() {
        for (int acts : new int[] {0, 1, 30, 31}) {
            Switchlog desk = Desks.withLog(acts);
            desk.writeBack();
            expect.due("log() of " + acts, acts, desk.log());
            expect.due("earthed() of " + acts, acts % 2, desk.earthed());
            expect.due("times(2, 0) of " + acts, (acts + 1) / 2, desk.times(2, 0));
        }
    }
}
