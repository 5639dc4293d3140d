/** The calls that README.md shows, with the answers that it tells. */
public final class ReadmeTest {
    private static final Expect expect = new Expect("ReadmeTest");

    public static void main(String[] args) {
        Switchlog desk = new Switchlog();
        int busbar = desk.addNode(true, false);
        int feeder = desk.addNode(false, true);
        int breaker = desk.addSwitch(busbar, feeder, true);
        expect.due("busbar", 0, busbar);
        expect.due("feeder", 1, feeder);
        expect.due("breaker", 0, breaker);

        expect.due("the source on", 0, desk.act(4, busbar));
        expect.due("the breaker closed", 0, desk.act(1, breaker));
        expect.due("an earth on a live node", 3, desk.act(2, feeder));
        expect.due("live()", 3, desk.live());
        expect.due("takeBack()", 0, desk.takeBack());
        expect.due("toLive(feeder)", 1, desk.toLive(feeder));

        expect.due("the first act written", 1, desk.write(2, feeder));
        expect.due("the second act written", 2, desk.write(1, breaker));
        expect.due("check()", 1, desk.check());
        expect.due("carryOut(30)", 1, desk.carryOut(30));
        expect.due("erase()", 1, desk.erase());

        int permit = desk.permit(1 << feeder);
        expect.due("permit", 0, permit);
        expect.due("the earth off while it is held", 2, desk.act(3, feeder));
        expect.due("handBack(permit)", 0, desk.handBack(permit));

        expect.due("log()", 2, desk.log());
        expect.due("logged(0)", 201, desk.logged(0));
        String thrown = Expect.thrown(Desks.INDEX);
        expect.due("part(2)", thrown, Expect.outcome(() -> desk.part(2)));
        expect.end();
    }
}
