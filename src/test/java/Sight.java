/** All that a desk shows by calls that change nothing, as one text. */
final class Sight {
    private Sight() {
    }

    static String of(Switchlog desk) {
        StringBuilder text = new StringBuilder();
        text.append("nodes ").append(desk.nodes()).append(" switches ").append(desk.switches());
        text.append(" held ").append(desk.held()).append(" live ").append(desk.live());
        text.append(" loaded ").append(desk.loaded()).append(" earthed ").append(desk.earthed());
        text.append(" parts ").append(desk.parts()).append(" check ").append(desk.check());
        text.append(" log");
        for (int i = 0; i < desk.log(); i++) {
            text.append(' ').append(desk.logged(i));
        }
        addNodes(text, desk);
        addSwitches(text, desk);
        return text.toString();
    }

    private static void addNodes(StringBuilder text, Switchlog desk) {
        for (int node = 0; node < desk.nodes(); node++) {
            int its = node;
            text.append(" node ").append(desk.part(its));
            text.append(' ').append(Expect.outcome(() -> desk.toLive(its)));
            for (int kind = 2; kind < 6; kind++) {
                text.append(' ').append(desk.reason(kind, its)).append(' ').append(desk.times(kind, its));
            }
        }
    }

    private static void addSwitches(StringBuilder text, Switchlog desk) {
        for (int which = 0; which < desk.switches(); which++) {
            text.append(" switch ").append(desk.isClosed(which));
            for (int kind = 0; kind < 2; kind++) {
                text.append(' ').append(desk.reason(kind, which)).append(' ').append(desk.times(kind, which));
            }
        }
    }
}
