import java.util.ArrayList;
import java.util.HashSet;
import java.util.List;
import java.util.NoSuchElementException;
import java.util.Set;

/** The document told in the slowest and plainest way, apart from the program's own code. */
final class Model {
    private static final class Node {
        boolean hasSource;
        boolean hasLoad;
        boolean sourceOn;
        boolean earthOn;
    }

    private static final class Link {
        int one;
        int other;
        boolean breaker;
        boolean closed;
    }

    private record Act(int kind, int what) {
        Act opposite() {
            return new Act(new int[] {1, 0, 3, 2, 5, 4}[kind], what);
        }
    }

    private List<Node> nodes = new ArrayList<>();
    private List<Link> links = new ArrayList<>();
    private final List<Act> log = new ArrayList<>();
    private List<Act> sequence = new ArrayList<>();
    /** Null where the permit was handed back. */
    private final List<Set<Integer>> permits = new ArrayList<>();

    int addNode(boolean source, boolean load) {
        if (nodes.size() == 16) {
            throw new IllegalStateException();
        }
        Node node = new Node();
        node.hasSource = source;
        node.hasLoad = load;
        nodes.add(node);
        return nodes.size() - 1;
    }

    int addSwitch(int one, int other, boolean breaker) {
        mustBeNode(one);
        mustBeNode(other);
        if (one == other) {
            throw new IllegalArgumentException();
        }
        if (links.size() == 24) {
            throw new IllegalStateException();
        }
        Link link = new Link();
        link.one = one;
        link.other = other;
        link.breaker = breaker;
        links.add(link);
        return links.size() - 1;
    }

    int nodes() {
        return nodes.size();
    }

    int switches() {
        return links.size();
    }

    int act(int kind, int what) {
        mustBeAct(kind, what);
        if (log.size() == 200) {
            throw new IllegalStateException();
        }
        return doAct(new Act(kind, what));
    }

    private int doAct(Act act) {
        int why = why(act);
        if (why == 0) {
            put(act);
            log.add(act);
        }
        return why;
    }

    int reason(int kind, int what) {
        mustBeAct(kind, what);
        return why(new Act(kind, what));
    }

    int takeBack() {
        if (log.isEmpty()) {
            throw new IllegalStateException();
        }
        Act back = log.get(log.size() - 1).opposite();
        int why = why(back);
        if (why == 0) {
            put(back);
            log.remove(log.size() - 1);
        }
        return why;
    }

    int log() {
        return log.size();
    }

    int logged(int index) {
        if (index < 0 || index >= log.size()) {
            throw new IndexOutOfBoundsException();
        }
        Act act = log.get(log.size() - 1 - index);
        return 100 * act.kind + act.what;
    }

    int times(int kind, int what) {
        mustBeAct(kind, what);
        int times = 0;
        for (Act act : log) {
            if (act.kind == kind && act.what == what) {
                times++;
            }
        }
        return times;
    }

    int write(int kind, int what) {
        mustBeAct(kind, what);
        if (sequence.size() == 30) {
            throw new IllegalStateException();
        }
        sequence.add(new Act(kind, what));
        return sequence.size();
    }

    int erase() {
        int had = sequence.size();
        sequence = new ArrayList<>();
        return had;
    }

    int check() {
        List<Node> nodesBefore = copyOfNodes();
        List<Link> linksBefore = copyOfLinks();
        int allowed = 0;
        for (Act act : sequence) {
            if (why(act) != 0) {
                break;
            }
            put(act);
            allowed++;
        }
        nodes = nodesBefore;
        links = linksBefore;
        return allowed;
    }

    int carryOut(int acts) {
        if (acts < 1 || acts > 30) {
            throw new IllegalArgumentException();
        }
        int so = sequence.size() < acts ? sequence.size() : acts;
        if (log.size() + so > 200) {
            throw new IllegalStateException();
        }
        int carried = 0;
        while (carried < acts && !sequence.isEmpty() && doAct(sequence.get(0)) == 0) {
            sequence.remove(0);
            carried++;
        }
        return carried;
    }

    int writeBack() {
        sequence = new ArrayList<>();
        for (int i = log.size() - 1; i >= 0 && sequence.size() < 30; i--) {
            sequence.add(log.get(i).opposite());
        }
        return sequence.size();
    }

    int permit(int sum) {
        Set<Integer> some = new HashSet<>();
        for (int bit = 0; bit < 32; bit++) {
            if ((sum >>> bit & 1) == 1) {
                some.add(bit);
            }
        }
        if (some.isEmpty()) {
            throw new IllegalArgumentException();
        }
        for (int node : some) {
            if (node >= nodes.size()) {
                throw new IllegalArgumentException();
            }
        }
        for (int node : some) {
            if (!isEarthed(node) || isLive(node) || isHeld(node)) {
                throw new IllegalStateException();
            }
        }
        if (permits.size() == 10) {
            throw new IllegalStateException();
        }
        permits.add(some);
        return permits.size() - 1;
    }

    int handBack(int permit) {
        if (permit < 0 || permit >= permits.size()) {
            throw new IndexOutOfBoundsException();
        }
        if (permits.get(permit) == null) {
            throw new IllegalStateException();
        }
        permits.set(permit, null);
        int still = 0;
        for (Set<Integer> some : permits) {
            if (some != null) {
                still++;
            }
        }
        return still;
    }

    int held() {
        int sum = 0;
        for (int node = 0; node < nodes.size(); node++) {
            sum += isHeld(node) ? power(node) : 0;
        }
        return sum;
    }

    boolean isClosed(int which) {
        if (which < 0 || which >= links.size()) {
            throw new IndexOutOfBoundsException();
        }
        return links.get(which).closed;
    }

    int live() {
        int sum = 0;
        for (int node = 0; node < nodes.size(); node++) {
            sum += isLive(node) ? power(node) : 0;
        }
        return sum;
    }

    int loaded() {
        int sum = 0;
        for (int node = 0; node < nodes.size(); node++) {
            sum += isLoaded(node) ? power(node) : 0;
        }
        return sum;
    }

    int earthed() {
        int sum = 0;
        for (int node = 0; node < nodes.size(); node++) {
            sum += isEarthed(node) ? power(node) : 0;
        }
        return sum;
    }

    int part(int node) {
        mustBeNode(node);
        int sum = 0;
        for (int other : partOf(node)) {
            sum += power(other);
        }
        return sum;
    }

    int parts() {
        Set<Set<Integer>> parts = new HashSet<>();
        for (int node = 0; node < nodes.size(); node++) {
            parts.add(partOf(node));
        }
        return parts.size();
    }

    /** Shortens ways until nothing gets shorter. */
    int toLive(int node) {
        mustBeNode(node);
        int[] way = new int[nodes.size()];
        for (int i = 0; i < way.length; i++) {
            way[i] = nodes.get(i).sourceOn ? 0 : 1000;
        }
        boolean shorter = true;
        while (shorter) {
            shorter = false;
            for (Link link : links) {
                int length = link.closed ? 0 : 1;
                if (way[link.one] > way[link.other] + length) {
                    way[link.one] = way[link.other] + length;
                    shorter = true;
                }
                if (way[link.other] > way[link.one] + length) {
                    way[link.other] = way[link.one] + length;
                    shorter = true;
                }
            }
        }
        if (way[node] >= 1000) {
            throw new NoSuchElementException();
        }
        return way[node];
    }

    private static int power(int node) {
        int power = 1;
        for (int i = 0; i < node; i++) {
            power *= 2;
        }
        return power;
    }

    private void mustBeNode(int node) {
        if (node < 0 || node >= nodes.size()) {
            throw new IndexOutOfBoundsException();
        }
    }

    private void mustBeAct(int kind, int what) {
        if (kind < 0 || kind > 5) {
            throw new IllegalArgumentException();
        }
        if (what < 0 || what >= (kind < 2 ? links.size() : nodes.size())) {
            throw new IndexOutOfBoundsException();
        }
    }

    private Set<Integer> partOf(int node) {
        Set<Integer> part = new HashSet<>();
        walk(node, part);
        return part;
    }

    private void walk(int node, Set<Integer> part) {
        if (!part.add(node)) {
            return;
        }
        for (Link link : links) {
            if (link.closed && link.one == node) {
                walk(link.other, part);
            }
            if (link.closed && link.other == node) {
                walk(link.one, part);
            }
        }
    }

    private boolean isLive(int node) {
        for (int other : partOf(node)) {
            if (nodes.get(other).sourceOn) {
                return true;
            }
        }
        return false;
    }

    private boolean isEarthed(int node) {
        for (int other : partOf(node)) {
            if (nodes.get(other).earthOn) {
                return true;
            }
        }
        return false;
    }

    private boolean isLoaded(int node) {
        for (int other : partOf(node)) {
            if (nodes.get(other).hasLoad) {
                return isLive(node);
            }
        }
        return false;
    }

    private boolean isHeld(int node) {
        for (Set<Integer> some : permits) {
            if (some != null && some.contains(node)) {
                return true;
            }
        }
        return false;
    }

    private void put(Act act) {
        switch (act.kind) {
            case 0 -> links.get(act.what).closed = false;
            case 1 -> links.get(act.what).closed = true;
            case 2 -> nodes.get(act.what).earthOn = true;
            case 3 -> nodes.get(act.what).earthOn = false;
            case 4 -> nodes.get(act.what).sourceOn = true;
            default -> nodes.get(act.what).sourceOn = false;
        }
    }

    private int why(Act act) {
        if (isSo(act)) {
            return 1;
        }
        if (touchesHeld(act)) {
            return 2;
        }
        if (isForbidden(act)) {
            return 3;
        }
        put(act);
        boolean harm = false;
        for (int node = 0; node < nodes.size(); node++) {
            harm |= isHeld(node) && (!isEarthed(node) || isLive(node));
        }
        put(act.opposite());
        return harm ? 4 : 0;
    }

    private boolean isSo(Act act) {
        return switch (act.kind) {
            case 0 -> !links.get(act.what).closed;
            case 1 -> links.get(act.what).closed;
            case 2 -> nodes.get(act.what).earthOn;
            case 3 -> !nodes.get(act.what).earthOn;
            case 4 -> !nodes.get(act.what).hasSource || nodes.get(act.what).sourceOn;
            default -> !nodes.get(act.what).sourceOn;
        };
    }

    private boolean touchesHeld(Act act) {
        if (act.kind < 2) {
            return isHeld(links.get(act.what).one) || isHeld(links.get(act.what).other);
        }
        return isHeld(act.what);
    }

    private boolean isForbidden(Act act) {
        return switch (act.kind) {
            case 0 -> openingIsForbidden(links.get(act.what));
            case 1 -> closingIsForbidden(links.get(act.what));
            case 2 -> isLive(act.what);
            case 4 -> isEarthed(act.what);
            default -> false;
        };
    }

    private boolean openingIsForbidden(Link link) {
        if (link.breaker || !isLoaded(link.one) && !isLoaded(link.other)) {
            return false;
        }
        link.closed = false;
        boolean otherWay = partOf(link.one).contains(link.other);
        link.closed = true;
        return !otherWay;
    }

    private boolean closingIsForbidden(Link link) {
        if (isLive(link.one) && isEarthed(link.other) || isLive(link.other) && isEarthed(link.one)) {
            return true;
        }
        if (link.breaker || partOf(link.one).contains(link.other)) {
            return false;
        }
        link.closed = true;
        boolean loaded = isLoaded(link.one) || isLoaded(link.other);
        link.closed = false;
        return loaded;
    }

    private List<Node> copyOfNodes() {
        List<Node> copies = new ArrayList<>();
        for (Node node : nodes) {
            Node copy = new Node();
            copy.hasSource = node.hasSource;
            copy.hasLoad = node.hasLoad;
            copy.sourceOn = node.sourceOn;
            copy.earthOn = node.earthOn;
            copies.add(copy);
        }
        return copies;
    }

    private List<Link> copyOfLinks() {
        List<Link> copies = new ArrayList<>();
        for (Link link : links) {
            Link copy = new Link();
            copy.one = link.one;
            copy.other = link.other;
            copy.breaker = link.breaker;
            copy.closed = link.closed;
            copies.add(copy);
        }
        return copies;
    }
}
