import java.util.function.Supplier;

/** Promises 12 to 16: the sequence. */
public final class SequencesTest {
    private static final Expect expect = new Expect("SequencesTest");

    public static void main(String[] args) {
        checkGoesInThought();
        checkLooksAtPermits();
        carryOutDoesFromTheBeginning();
        carryOutStopsAtWhatIsNotAllowed();
        writeBackWritesOpposites();
        writeBackUndoes();
        expect.end();
    }

    private static void checkGoesInThought() {
        Supplier<Switchlog> made = () -> Desks.written(Desks.feeder(false, true), "10 40 11 01 00 50 20 30");
        expect.unchanged(made, "check() of eight", "8", x -> x.check());
        Switchlog desk = made.get();
        expect.due("check() of eight", 8, desk.check());
        desk.write(3, 0);
        expect.due("check() with an act that is so already", 8, desk.check());
        desk.write(2, 0);
        expect.due("check() with one behind it", 8, desk.check());
        expect.due("erase()", 10, desk.erase());
        Desks.written(desk, "40 10 11 00");
        expect.due("check() with a disconnector under load", 3, desk.check());
        expect.due("act(1, 0)", 0, desk.act(1, 0));
        expect.due("check() from how things are", 1, desk.check());
    }

    private static void checkLooksAtPermits() {
        Switchlog desk = Desks.after(Desks.bare(2), "20");
        desk.addSwitch(0, 1, true);
        desk.permit(1);
        Desks.written(desk, "21 31 10 00");
        expect.due("check() with a node held", 2, desk.check());
        desk.handBack(0);
        expect.due("check() with none held", 4, desk.check());
        Switchlog behind = Desks.bare(3);
        behind.addSwitch(0, 1, true);
        behind.addSwitch(1, 2, true);
        Desks.after(behind, "10 11 21");
        behind.permit(1);
        Desks.written(behind, "22 31 01");
        expect.due("check() with a held node not earthed", 2, behind.check());
    }

    private static void carryOutDoesFromTheBeginning() {
        Switchlog desk = Desks.written(Desks.feeder(true, true), "40 10 11");
        expect.due("carryOut(2)", 2, desk.carryOut(2));
        expect.due("log()", 2, desk.log());
        expect.due("logged(0)", 100, desk.logged(0));
        expect.due("logged(1)", 400, desk.logged(1));
        expect.due("live()", 0b011, desk.live());
        expect.due("check()", 1, desk.check());
        expect.due("write(0, 1)", 2, desk.write(0, 1));
        expect.due("carryOut(30)", 2, desk.carryOut(30));
        expect.due("logged(0)", 1, desk.logged(0));
        expect.due("logged(1)", 101, desk.logged(1));
        expect.due("erase()", 0, desk.erase());
        expect.due("carryOut(1) of none", 0, desk.carryOut(1));
    }

    private static void carryOutStopsAtWhatIsNotAllowed() {
        Switchlog desk = Desks.written(Desks.feeder(true, true), "40 10 20 11");
        expect.due("carryOut(4)", 2, desk.carryOut(4));
        expect.due("log()", 2, desk.log());
        expect.due("isClosed(1)", false, desk.isClosed(1));
        expect.due("check()", 0, desk.check());
        expect.due("carryOut(1) at it", 0, desk.carryOut(1));
        expect.due("act(5, 0)", 0, desk.act(5, 0));
        expect.due("carryOut(1) of it", 1, desk.carryOut(1));
        expect.due("logged(0)", 200, desk.logged(0));
        expect.due("erase()", 1, desk.erase());
        Switchlog held = Desks.written(Desks.after(Desks.bare(2), "20"), "21 30");
        held.permit(1);
        expect.due("carryOut(30) with a node held", 1, held.carryOut(30));
        expect.due("earthed()", 0b11, held.earthed());
        expect.due("erase()", 1, held.erase());
    }

    private static void writeBackWritesOpposites() {
        Switchlog desk = Desks.after(Desks.feeder(true, true), "21 31 10 00 40 50");
        desk.write(2, 2);
        String before = desk.log() + " " + desk.live() + " " + desk.earthed() + " " + desk.isClosed(0);
        expect.due("writeBack()", 6, desk.writeBack());
        expect.due("what is seen", before,
                desk.log() + " " + desk.live() + " " + desk.earthed() + " " + desk.isClosed(0));
        expect.due("carryOut(30)", 6, desk.carryOut(30));
        int[] due = {301, 201, 0, 100, 500, 400};
        for (int i = 0; i < due.length; i++) {
            expect.due("logged(" + i + ")", due[i], desk.logged(i));
        }
        expect.due("writeBack() of 12", 12, desk.writeBack());
        expect.due("erase()", 12, desk.erase());
        Switchlog empty = Desks.bare(1);
        empty.write(2, 0);
        expect.due("writeBack() of an empty log", 0, empty.writeBack());
        expect.due("erase()", 0, empty.erase());
    }

    private static void writeBackUndoes() {
        Switchlog desk = Desks.after(Desks.feeder(true, false), "11 10 40 00 22");
        expect.due("writeBack()", 5, desk.writeBack());
        expect.due("check()", 5, desk.check());
        desk.permit(0b100);
        expect.due("check() with a node held", 0, desk.check());
        expect.due("carryOut(30) with a node held", 0, desk.carryOut(30));
        expect.due("handBack(0)", 0, desk.handBack(0));
        expect.due("carryOut(30)", 5, desk.carryOut(30));
        expect.due("earthed()", 0, desk.earthed());
        expect.due("live()", 0, desk.live());
        expect.due("parts()", 3, desk.parts());
    }
}
