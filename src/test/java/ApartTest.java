import java.util.List;
import java.util.function.Function;

/**
 * Each call changes what the document says that it changes, and nothing else: asking changes
 * nothing, and calls that change different things answer the same, and leave the same, in either order.
 */
public final class ApartTest {
    private static final Expect expect = new Expect("ApartTest");

    private record Call(String name, Function<Switchlog, Object> made) {
        Object on(Switchlog desk) {
            return made.apply(desk);
        }
    }

    private static final List<Call> BUILDING = List.of(
            new Call("addNode(true, true)", desk -> desk.addNode(true, true)),
            new Call("addSwitch(2, 5, false)", desk -> desk.addSwitch(2, 5, false)));

    private static final List<Call> ACTS = List.of(
            new Call("act(2, 2)", desk -> desk.act(2, 2)),
            new Call("act(5, 0)", desk -> desk.act(5, 0)),
            new Call("act(2, 0), which is not allowed", desk -> desk.act(2, 0)),
            new Call("takeBack()", desk -> desk.takeBack()));

    private static final List<Call> WRITING = List.of(
            new Call("write(3, 5)", desk -> desk.write(3, 5)),
            new Call("erase()", desk -> desk.erase()));

    /** These look at the log, or add to it. */
    private static final List<Call> WRITING_WITH_THE_LOG = List.of(
            new Call("carryOut(2)", desk -> desk.carryOut(2)),
            new Call("writeBack()", desk -> desk.writeBack()));

    private static final List<Call> PERMITS = List.of(
            new Call("permit(1 << 5)", desk -> desk.permit(1 << 5)),
            new Call("handBack(0)", desk -> desk.handBack(0)));

    public static void main(String[] args) {
        askingChangesNothing();
        inEitherOrder(BUILDING, ACTS);
        inEitherOrder(BUILDING, WRITING);
        inEitherOrder(BUILDING, WRITING_WITH_THE_LOG);
        inEitherOrder(BUILDING, PERMITS);
        inEitherOrder(ACTS, WRITING);
        inEitherOrder(ACTS, PERMITS);
        inEitherOrder(WRITING, PERMITS);
        inEitherOrder(WRITING_WITH_THE_LOG, PERMITS);
        expect.end();
    }

    /** The nodes 0 and 1 are live, 3, 4 and 5 earthed; permit 0 holds node 3, permit 1 was handed back. */
    private static Switchlog worked() {
        Switchlog desk = Desks.made("s - l - s -", "01b 12d 34b 35d 05b", "23 12 25 40 10");
        Desks.withPermits(desk, 1 << 3, 1 << 5);
        desk.handBack(1);
        return Desks.written(desk, "22 32 22");
    }

    private static void asking(String call, Object want, Function<Switchlog, Object> asked) {
        expect.unchanged(ApartTest::worked, call, String.valueOf(want), asked);
    }

    private static void askingChangesNothing() {
        asking("nodes()", 6, desk -> desk.nodes());
        asking("switches()", 5, desk -> desk.switches());
        asking("reason(0, 0)", 0, desk -> desk.reason(0, 0));
        asking("log()", 5, desk -> desk.log());
        asking("logged(1)", 400, desk -> desk.logged(1));
        asking("times(1, 2)", 1, desk -> desk.times(1, 2));
        asking("check()", 3, desk -> desk.check());
        asking("held()", 0b001000, desk -> desk.held());
        asking("isClosed(2)", true, desk -> desk.isClosed(2));
        asking("live()", 0b000011, desk -> desk.live());
        asking("loaded()", 0, desk -> desk.loaded());
        asking("earthed()", 0b111000, desk -> desk.earthed());
        asking("part(3)", 0b011000, desk -> desk.part(3));
        asking("parts()", 4, desk -> desk.parts());
        asking("toLive(2)", 1, desk -> desk.toLive(2));
    }

    private static void inEitherOrder(List<Call> some, List<Call> others) {
        for (Call one : some) {
            for (Call other : others) {
                inEitherOrder(one, other);
            }
        }
    }

    private static void inEitherOrder(Call one, Call other) {
        Switchlog desk = worked();
        Object first = one.on(desk);
        Object second = other.on(desk);
        Switchlog turned = worked();
        expect.due(other.name() + " ahead of " + one.name(), second, other.on(turned));
        expect.due(one.name() + " behind " + other.name(), first, one.on(turned));
        expect.due("what is seen after " + other.name() + " and " + one.name(),
                Sight.of(() -> after(one, other)), Sight.of(() -> after(other, one)));
    }

    private static Switchlog after(Call one, Call other) {
        Switchlog desk = worked();
        one.on(desk);
        other.on(desk);
        return desk;
    }
}
