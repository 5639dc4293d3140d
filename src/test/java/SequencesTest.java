import java.util.function.Supplier;

/** Promises 12 to 16: the sequence. */
public final class SequencesTest {
    private static final Expect expect = new Expect("SequencesTest");

    public static void main(String[] args) {
        writeCountsThirty();
        writeRefusesInOrder();
        writeTakesWhatIsNotAllowed();
        eraseEmpties();
        checkGoesInThought();
        checkLooksAtPermits();
        checkDoesNotLookAtTheLog();
        carryOutDoesFromTheBeginning();
        carryOutStopsAtWhatIsNotAllowed();
        carryOutRefusesInOrder();
        carryOutLooksAtTheRoomOfTheLog();
        writeBackWritesOpposites();
        writeBackTakesThirty();
        writeBackUndoes();
        expect.end();
    }

    private static Switchlog filled(Switchlog desk, int acts) {
        for (int i = 0; i < acts; i++) {
            desk.write(i % 2 == 0 ? 2 : 3, 0);
        }
        return desk;
    }

    private static void writeCountsThirty() {
        expect.refused(() -> filled(Desks.bare(1), 30), "a 31st write", Desks.STATE, desk -> desk.write(2, 0));
        Switchlog desk = Desks.bare(1);
        for (int i = 0; i < 30; i++) {
            expect.due("write " + i, i + 1, desk.write(i % 2 == 0 ? 2 : 3, 0));
        }
        expect.due("check()", 30, desk.check());
        expect.due("log()", 0, desk.log());
        expect.due("earthed()", 0, desk.earthed());
        expect.due("carryOut(2)", 2, desk.carryOut(2));
        expect.due("write after carryOut(2)", 29, desk.write(2, 0));
    }

    private static void writeRefusesInOrder() {
        for (int acts : new int[] {0, 30}) {
            Supplier<Switchlog> made = () -> filled(Desks.feeder(true, true), acts);
            for (int kind : new int[] {-1, 6, Integer.MIN_VALUE, Integer.MAX_VALUE}) {
                expect.refused(made, "write(" + kind + ", 9)", Desks.ARGUMENT, desk -> desk.write(kind, 9));
                expect.refused(made, "write(" + kind + ", 0)", Desks.ARGUMENT, desk -> desk.write(kind, 0));
            }
            for (int i = 0; i < 6; i++) {
                int kind = i;
                int bound = kind < 2 ? 2 : 3;
                for (int what : new int[] {-1, bound, 100, Integer.MIN_VALUE, Integer.MAX_VALUE}) {
                    expect.refused(made, "write(" + kind + ", " + what + ")", Desks.INDEX,
                            desk -> desk.write(kind, what));
                }
            }
        }
    }

    private static void writeTakesWhatIsNotAllowed() {
        Switchlog desk = Desks.feeder(true, true);
        expect.due("write(0, 0)", 1, desk.write(0, 0));
        expect.due("write(4, 2)", 2, desk.write(4, 2));
        expect.due("check()", 0, desk.check());
    }

    private static void eraseEmpties() {
        Switchlog desk = Desks.bare(1);
        expect.due("erase() of an empty sequence", 0, desk.erase());
        filled(desk, 7);
        expect.due("erase()", 7, desk.erase());
        expect.due("erase() again", 0, desk.erase());
        expect.due("check()", 0, desk.check());
        expect.due("carryOut(30)", 0, desk.carryOut(30));
        expect.due("write(2, 0)", 1, desk.write(2, 0));
    }

    private static void checkGoesInThought() {
        Supplier<Switchlog> made = () -> Desks.written(Desks.feeder(false, true), "10 40 11 01 00 50 20 30");
        expect.unchanged(made, "check() of eight", "8", x -> x.check());
        Switchlog desk = made.get();
        expect.due("check() of eight", 8, desk.check());
        desk.write(3, 0);
        expect.due("check() with an act that is so already", 8, desk.check());
        desk.write(2, 0);
        expect.due("check() with one behind it", 8, desk.check());
        expect.due("erase()", 10, desk.erase());
        Desks.written(desk, "40 10 11 00");
        expect.due("check() with a disconnector under load", 3, desk.check());
        expect.due("act(1, 0)", 0, desk.act(1, 0));
        expect.due("check() from how things are", 1, desk.check());
    }

    private static void checkLooksAtPermits() {
        Switchlog desk = Desks.after(Desks.bare(2), "20");
        desk.addSwitch(0, 1, true);
        desk.permit(1);
        Desks.written(desk, "21 31 10 00");
        expect.due("check() with a node held", 2, desk.check());
        desk.handBack(0);
        expect.due("check() with none held", 4, desk.check());
        Switchlog behind = Desks.bare(3);
        behind.addSwitch(0, 1, true);
        behind.addSwitch(1, 2, true);
        Desks.after(behind, "10 11 21");
        behind.permit(1);
        Desks.written(behind, "22 31 01");
        expect.due("check() with a held node not earthed", 2, behind.check());
    }

    private static void checkDoesNotLookAtTheLog() {
        Switchlog desk = Desks.withLog(200);
        filled(desk, 3);
        expect.due("check() with a full log", 3, desk.check());
    }

    private static void carryOutDoesFromTheBeginning() {
        Switchlog desk = Desks.written(Desks.feeder(true, true), "40 10 11");
        expect.due("carryOut(2)", 2, desk.carryOut(2));
        expect.due("log()", 2, desk.log());
        expect.due("logged(0)", 100, desk.logged(0));
        expect.due("logged(1)", 400, desk.logged(1));
        expect.due("live()", 0b011, desk.live());
        expect.due("check()", 1, desk.check());
        expect.due("write(0, 1)", 2, desk.write(0, 1));
        expect.due("carryOut(30)", 2, desk.carryOut(30));
        expect.due("logged(0)", 1, desk.logged(0));
        expect.due("logged(1)", 101, desk.logged(1));
        expect.due("erase()", 0, desk.erase());
        expect.due("carryOut(1) of none", 0, desk.carryOut(1));
    }

    private static void carryOutStopsAtWhatIsNotAllowed() {
        Switchlog desk = Desks.written(Desks.feeder(true, true), "40 10 20 11");
        expect.due("carryOut(4)", 2, desk.carryOut(4));
        expect.due("log()", 2, desk.log());
        expect.due("isClosed(1)", false, desk.isClosed(1));
        expect.due("check()", 0, desk.check());
        expect.due("carryOut(1) at it", 0, desk.carryOut(1));
        expect.due("act(5, 0)", 0, desk.act(5, 0));
        expect.due("carryOut(1) of it", 1, desk.carryOut(1));
        expect.due("logged(0)", 200, desk.logged(0));
        expect.due("erase()", 1, desk.erase());
        Switchlog held = Desks.written(Desks.after(Desks.bare(2), "20"), "21 30");
        held.permit(1);
        expect.due("carryOut(30) with a node held", 1, held.carryOut(30));
        expect.due("earthed()", 0b11, held.earthed());
        expect.due("erase()", 1, held.erase());
    }

    private static void carryOutRefusesInOrder() {
        for (int log : new int[] {0, 200}) {
            Supplier<Switchlog> made = () -> Desks.written(Desks.withLog(log), "20");
            for (int acts : new int[] {0, -1, 31, 32, Integer.MIN_VALUE, Integer.MAX_VALUE}) {
                expect.refused(made, "carryOut(" + acts + ")", Desks.ARGUMENT, desk -> desk.carryOut(acts));
            }
        }
        Supplier<Switchlog> full = () -> Desks.written(Desks.withLog(200), "20");
        expect.refused(full, "carryOut(1) with a full log", Desks.STATE, desk -> desk.carryOut(1));
        expect.refused(full, "carryOut(30) with a full log", Desks.STATE, desk -> desk.carryOut(30));
        expect.unchanged(() -> Desks.withLog(200), "carryOut(30) of none with a full log", "0",
                desk -> desk.carryOut(30));
    }

    private static void carryOutLooksAtTheRoomOfTheLog() {
        Supplier<Switchlog> made = () -> filled(Desks.withLog(190), 12);
        expect.refused(made, "carryOut(11) with room for 10", Desks.STATE, x -> x.carryOut(11));
        expect.refused(made, "carryOut(30) with room for 10", Desks.STATE, x -> x.carryOut(30));
        Switchlog desk = Desks.withLog(190);
        filled(desk, 12);
        expect.due("carryOut(10) with room for 10", 10, desk.carryOut(10));
        expect.due("log()", 200, desk.log());
        expect.due("erase()", 2, desk.erase());
        Switchlog fewer = Desks.withLog(190);
        filled(fewer, 10);
        expect.due("carryOut(30) of 10 with room for 10", 10, fewer.carryOut(30));
        expect.due("log()", 200, fewer.log());
        // So many acts count, whether they would be allowed or not.
        Supplier<Switchlog> notAllowed = () -> Desks.written(Desks.withLog(199), "20 20");
        expect.refused(notAllowed, "carryOut(2) with room for 1", Desks.STATE, x -> x.carryOut(2));
        expect.unchanged(notAllowed, "carryOut(1) with room for 1", "0", x -> x.carryOut(1));
        Switchlog whole = Desks.withLog(170);
        filled(whole, 30);
        expect.due("carryOut(30) with room for 30", 30, whole.carryOut(30));
        expect.due("log()", 200, whole.log());
    }

    private static void writeBackWritesOpposites() {
        Switchlog desk = Desks.after(Desks.feeder(true, true), "21 31 10 00 40 50");
        desk.write(2, 2);
        String before = desk.log() + " " + desk.live() + " " + desk.earthed() + " " + desk.isClosed(0);
        expect.due("writeBack()", 6, desk.writeBack());
        expect.due("what is seen", before,
                desk.log() + " " + desk.live() + " " + desk.earthed() + " " + desk.isClosed(0));
        expect.due("carryOut(30)", 6, desk.carryOut(30));
        int[] due = {301, 201, 0, 100, 500, 400};
        for (int i = 0; i < due.length; i++) {
            expect.due("logged(" + i + ")", due[i], desk.logged(i));
        }
        expect.due("writeBack() of 12", 12, desk.writeBack());
        expect.due("erase()", 12, desk.erase());
        Switchlog empty = Desks.bare(1);
        empty.write(2, 0);
        expect.due("writeBack() of an empty log", 0, empty.writeBack());
        expect.due("erase()", 0, empty.erase());
    }

    private static void writeBackTakesThirty() {
        for (int acts : new int[] {29, 30, 31, 170}) {
            Switchlog desk = Desks.withLog(acts);
            int due = Math.min(acts, 30);
            expect.due("writeBack() of " + acts, due, desk.writeBack());
            expect.due("check() of " + acts, due, desk.check());
            expect.due("carryOut(30) of " + acts, due, desk.carryOut(30));
            expect.due("logged(0) of " + acts, opposite(desk.logged(2 * due - 1)), desk.logged(0));
        }
        Switchlog full = Desks.withLog(200);
        expect.due("writeBack() of a full log", 30, full.writeBack());
        expect.due("a write behind it", "throws.IllegalStateException", Expect.outcome(() -> full.write(2, 0)));
    }

    private static int opposite(int act) {
        return act / 100 % 2 == 0 ? act + 100 : act - 100;
    }

    private static void writeBackUndoes() {
        Switchlog desk = Desks.after(Desks.feeder(true, false), "11 10 40 00 22");
        expect.due("writeBack()", 5, desk.writeBack());
        expect.due("check()", 5, desk.check());
        desk.permit(0b100);
        expect.due("check() with a node held", 0, desk.check());
        expect.due("carryOut(30) with a node held", 0, desk.carryOut(30));
        expect.due("handBack(0)", 0, desk.handBack(0));
        expect.due("carryOut(30)", 5, desk.carryOut(30));
        expect.due("earthed()", 0, desk.earthed());
        expect.due("live()", 0, desk.live());
        expect.due("parts()", 3, desk.parts());
    }
}
