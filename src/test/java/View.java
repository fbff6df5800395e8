import java.util.ArrayList;
import java.util.List;

/** All that can be asked of an object without much work, but for what is told of refusals and of undo(). */
final class View {
    private View() {
    }

    static List<Integer> of(HopNet x) {
        List<Integer> seen = new ArrayList<>();
        for (int what = 0; what < 20; what++) {
            seen.add(what >= 5 && what <= 9 ? 0 : x.count(what));
        }
        for (int net = 0; net < 2; net++) {
            addNet(x, net, seen);
            for (int link = -1; link < 4; link++) {
                addLink(x, net, link, seen);
            }
        }
        for (int radio = 0; radio < 6; radio++) {
            seen.add(x.isThere(radio, 0, 20));
            seen.add(x.isThere(radio, 1, 20));
        }
        return seen;
    }

    private static void addNet(HopNet x, int net, List<Integer> seen) {
        for (int what = 0; what < 7; what++) {
            seen.add(x.ofNet(net, what));
        }
        for (int channel = 0; channel < 23; channel++) {
            seen.add(x.sent(net, channel, 0));
            seen.add(x.sent(net, channel, 1));
        }
        seen.add(x.quiet(net, 3));
        seen.add(x.ahead(net, 3));
    }

    private static void addLink(HopNet x, int net, int link, List<Integer> seen) {
        for (int what = 0; what < 17; what++) {
            seen.add(x.link(net, link, what));
            seen.add(what < 4 ? x.mapOf(net, link, what) : 0);
            seen.add(what < 6 ? x.reserved(net, link, what) : 0);
            seen.add(what < 3 ? x.hash(net, link, what) : 0);
            seen.add(what < 3 ? x.alike(net, link, what) : 0);
        }
        seen.add(x.ready(net, link));
        seen.add(x.hop(net, link, 1234));
        seen.add(x.odds(net, link, 9, 0));
    }
}
