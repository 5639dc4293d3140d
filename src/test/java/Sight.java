import java.util.List;
import java.util.function.Function;
import java.util.function.Supplier;

/** All that can be found out about a desk, as one text. */
final class Sight {
    /** Each look uses its desk up, because some things can only be seen by changing others. */
    private static final List<Function<Switchlog, String>> LOOKS =
            List.of(Sight::whatIs, Sight::acts, Sight::log, Sight::sequence, Sight::permits, Sight::room,
                    Sight::whatIsBuilt);

    private static final int MOST_PERMITS = 10;
    private static final int MOST_WRITTEN = 30;
    private static final int MOST_DONE = 200;

    private Sight() {
    }

    /** Takes a desk made anew for each look, because a desk answers for 512 calls alone. */
    static String of(Supplier<Switchlog> made) {
        StringBuilder text = new StringBuilder();
        for (Function<Switchlog, String> look : LOOKS) {
            text.append(look.apply(made.get())).append("; ");
        }
        return text.toString();
    }

    private static String whatIs(Switchlog desk) {
        StringBuilder text = new StringBuilder();
        text.append("held ").append(desk.held()).append(" live ").append(desk.live());
        text.append(" loaded ").append(desk.loaded()).append(" earthed ").append(desk.earthed());
        text.append(" parts ").append(desk.parts()).append(" nodes");
        int nodes = desk.nodes();
        for (int i = 0; i < nodes; i++) {
            int node = i;
            text.append(' ').append(desk.part(node)).append(' ').append(Expect.outcome(() -> desk.toLive(node)));
        }
        text.append(" switches");
        int switches = desk.switches();
        for (int which = 0; which < switches; which++) {
            text.append(' ').append(desk.isClosed(which));
        }
        return text.toString();
    }

    private static String acts(Switchlog desk) {
        StringBuilder text = new StringBuilder("reasons and times");
        for (int kind = 0; kind < 6; kind++) {
            int bound = kind < 2 ? desk.switches() : desk.nodes();
            for (int what = 0; what < bound; what++) {
                text.append(' ').append(desk.reason(kind, what)).append(' ').append(desk.times(kind, what));
            }
        }
        return text.toString();
    }

    private static String log(Switchlog desk) {
        StringBuilder text = new StringBuilder("log");
        int acts = desk.log();
        for (int index = 0; index < acts; index++) {
            text.append(' ').append(desk.logged(index));
        }
        return text.toString();
    }

    /** Without the permits and with room in the log, so that as many acts as can be are carried out. */
    private static String sequence(Switchlog desk) {
        StringBuilder text = new StringBuilder("sequence ").append(desk.check());
        permits(desk);
        for (int acts = desk.log(); acts > MOST_DONE - MOST_WRITTEN; acts--) {
            text.append(' ').append(desk.takeBack());
        }
        int carried = desk.carryOut(MOST_WRITTEN);
        for (int index = 0; index < carried; index++) {
            text.append(' ').append(desk.logged(index));
        }
        return text.append(" and ").append(desk.erase()).toString();
    }

    private static String permits(Switchlog desk) {
        StringBuilder text = new StringBuilder("permits");
        for (int i = 0; i < MOST_PERMITS; i++) {
            int permit = i;
            text.append(' ').append(Expect.outcome(() -> desk.handBack(permit))).append(' ').append(desk.held());
        }
        return text.toString();
    }

    private static String room(Switchlog desk) {
        StringBuilder text = new StringBuilder("next permits");
        int nodes = desk.nodes();
        for (int i = 0; i < nodes; i++) {
            int node = i;
            text.append(' ').append(Expect.outcome(() -> desk.permit(1 << node)));
        }
        text.append(" held ").append(desk.held());
        text.append(" next node ").append(Expect.outcome(() -> desk.addNode(true, true)));
        text.append(" next switch ").append(Expect.outcome(() -> desk.addSwitch(0, 1, true)));
        return text.toString();
    }

    /** Sources and loads, breakers and what they join are seen once all that has a source is on. */
    private static String whatIsBuilt(Switchlog desk) {
        permits(desk);
        StringBuilder text = new StringBuilder("built");
        for (int i = 0; i < desk.nodes(); i++) {
            int node = i;
            text.append(' ').append(Expect.outcome(() -> desk.act(3, node)));
            text.append(' ').append(Expect.outcome(() -> desk.act(4, node)));
        }
        text.append(" loaded ").append(desk.loaded());
        for (int i = 0; i < desk.switches(); i++) {
            int which = i;
            text.append(' ').append(Expect.outcome(() -> desk.act(1, which)));
            text.append(' ').append(Expect.outcome(() -> desk.act(0, which)));
        }
        return text.append(" parts ").append(desk.parts()).append(" live ").append(desk.live()).toString();
    }
}
