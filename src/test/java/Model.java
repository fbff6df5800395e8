import java.util.ArrayList;
import java.util.LinkedList;
import java.util.List;

/**
 * The document once more, written another way (lists, fresh copies, no thrift): ModelTest runs both
 * against one another, so that a slip in one of them shows.
 */
final class Model {
    static final int NONE = -1;
    static final int ALL = 0x7fffff;

    /** One NUMBER of a row. */
    record Num(int v, int put) {
    }

    /** One direction of a link. */
    static final class Way {
        LinkedList<Num> row = new LinkedList<>();
        int bit = 0;
        int last = 1;
        List<Integer> heard = new ArrayList<>();
        int lag = 0;

        Way copy() {
            Way w = new Way();
            w.row = new LinkedList<>(row);
            w.bit = bit;
            w.last = last;
            w.heard = new ArrayList<>(heard);
            w.lag = lag;
            return w;
        }

        void take(int time) {
            Num gone = row.removeFirst();
            lag = Math.max(lag, (time - gone.put()) / 2);
            bit = 1 - bit;
        }
    }

    static int hashOf(List<Integer> numbers) {
        int h = 0;
        for (int v : numbers) {
            h = 31 * h + v + 1;
        }
        return h;
    }

    static final class L {
        int radio;
        int map;
        int next;
        int instant;
        boolean knows = true;
        Way down = new Way();
        Way up = new Way();
        boolean ackWaits = false;
        int[] res = null;
        int got = 0;
        int missed = 0;
        int frameAt = NONE;
        int[] sniff = null;
        int weight = 1;
        int castLast = 1;
        List<Integer> castsHeard = new ArrayList<>();
        int chosen = 0;
        int ready = 0;
        int why = 0;
        int latest;

        L copy() {
            L c = new L();
            c.radio = radio;
            c.map = map;
            c.next = next;
            c.instant = instant;
            c.knows = knows;
            c.down = down.copy();
            c.up = up.copy();
            c.ackWaits = ackWaits;
            c.res = res == null ? null : res.clone();
            c.got = got;
            c.missed = missed;
            c.frameAt = frameAt;
            c.sniff = sniff == null ? null : sniff.clone();
            c.weight = weight;
            c.castLast = castLast;
            c.castsHeard = new ArrayList<>(castsHeard);
            c.chosen = chosen;
            c.ready = ready;
            c.why = why;
            c.latest = latest;
            return c;
        }
    }

    static final class N {
        int master = NONE;
        int offset = 0;
        int map = ALL;
        int old = ALL;
        int next = 0;
        int instant = NONE;
        int polled = NONE;
        /** The MEMBERS chosen by polls in a row: all alike; the last one is POLLED's, or it left. */
        List<L> polls = new ArrayList<>();
        List<L> links = new ArrayList<>();
        LinkedList<Integer> casts = new LinkedList<>();
        int castBit = 0;
        int castSent = 0;
        int[] sent = new int[23];
        int[] answered = new int[23];
        int chosen = NONE;

        N copy() {
            N c = new N();
            c.master = master;
            c.offset = offset;
            c.map = map;
            c.old = old;
            c.next = next;
            c.instant = instant;
            c.polled = polled;
            for (L l : links) {
                c.links.add(l.copy());
            }
            for (L l : polls) {
                c.polls.add(links.contains(l) ? c.links.get(links.indexOf(l)) : null);
            }
            c.casts = new LinkedList<>(casts);
            c.castBit = castBit;
            c.castSent = castSent;
            c.sent = sent.clone();
            c.answered = answered.clone();
            return c;
        }
    }

    static final class W {
        int time = 0;
        long seed = 1;
        int share = 16;
        int repeats = 2;
        List<Integer> radios = new ArrayList<>();
        int[] noise = new int[23];
        N[] nets = {new N(), new N()};
        int heard = 0;
        int packets = 0;
        int answers = 0;
        int[] lost = new int[4];
        int passed = 0;
        int dropped = 0;
        int castsSent = 0;
        int newMaps = 0;

        W copy() {
            W c = new W();
            c.time = time;
            c.seed = seed;
            c.share = share;
            c.repeats = repeats;
            c.radios = new ArrayList<>(radios);
            c.noise = noise.clone();
            c.nets = new N[] {nets[0].copy(), nets[1].copy()};
            c.packets = packets;
            c.answers = answers;
            c.lost = lost.clone();
            c.passed = passed;
            c.dropped = dropped;
            c.castsSent = castsSent;
            c.newMaps = newMaps;
            return c;
        }

        boolean isIn(int radio, int n) {
            if (nets[n].master == radio) {
                return true;
            }
            for (L l : nets[n].links) {
                if (l.radio == radio) {
                    return true;
                }
            }
            return false;
        }

        boolean there(int radio, int n, int slot) {
            if (!isIn(radio, 0) || !isIn(radio, 1)) {
                return isIn(radio, n);
            }
            int whose = slot % 32 < share ? 0 : 1;
            return whose == n;
        }

        boolean ready(int n, L l, int at) {
            boolean awake = l.sniff == null || at % l.sniff[0] < 2 * l.sniff[1];
            return awake && there(l.radio, n, at);
        }

        int channel(int n, int map, int slot) {
            N net = nets[n];
            return byMap(kernelOf(radios.get(net.master), slot + net.offset), map);
        }

        int draw() {
            seed = (1103 * seed + 12345) % 1000003;
            return (int) (seed % 16);
        }

        /** LINK, NONE, or -2 when the NET CASTS. */
        int choose(int n) {
            N net = nets[n];
            L polledOne = net.polled == NONE ? null : net.links.get(net.polled);
            boolean wasPolled = polledOne != null && net.polls.contains(polledOne);
            if (net.master == NONE || !there(net.master, n, time)) {
                return NONE;
            }
            int many = net.links.size();
            for (int i = 0; i < many; i++) {
                if (ready(n, net.links.get(i), time) && net.links.get(i).frameAt != NONE) {
                    return i;
                }
            }
            for (int i = 0; i < many; i++) {
                if (ready(n, net.links.get(i), time) && !net.links.get(i).knows) {
                    return i;
                }
            }
            if (!net.casts.isEmpty()) {
                return -2;
            }
            if (wasPolled && ready(n, polledOne, time) && net.polls.size() < polledOne.weight) {
                net.polls.add(polledOne);
                return net.polled;
            }
            List<Integer> order = new ArrayList<>();
            for (int i = net.polled + 1; i < many; i++) {
                order.add(i);
            }
            for (int i = 0; i <= net.polled; i++) {
                order.add(i);
            }
            for (int i : order) {
                if (ready(n, net.links.get(i), time)) {
                    if (!net.polls.contains(net.links.get(i))) {
                        net.polls.clear();
                    }
                    net.polled = i;
                    net.polls.add(net.links.get(i));
                    return i;
                }
            }
            return NONE;
        }

        void turn() {
            // (a)
            for (N net : nets) {
                if (net.next != 0 && net.instant <= time) {
                    net.old = net.map;
                    net.map = net.next;
                    net.next = 0;
                    net.instant = NONE;
                    newMaps++;
                }
                for (L l : net.links) {
                    if (l.next != 0 && l.instant <= time) {
                        l.map = l.next;
                        l.next = 0;
                        l.instant = NONE;
                    }
                }
            }
            // (b)
            for (int n = 0; n < 2; n++) {
                for (L l : nets[n].links) {
                    if (l.res != null && time % l.res[0] == l.res[1]) {
                        l.frameAt = time;
                    }
                    if (ready(n, l, time)) {
                        l.ready++;
                    }
                }
            }
            // (c)
            for (int n = 0; n < 2; n++) {
                nets[n].chosen = choose(n);
                if (nets[n].chosen >= 0) {
                    nets[n].links.get(nets[n].chosen).chosen++;
                }
            }
            // (d)
            int[] ch = {NONE, NONE};
            for (int n = 0; n < 2; n++) {
                N net = nets[n];
                if (net.chosen == -2) {
                    ch[n] = channel(n, net.map, time);
                } else if (net.chosen >= 0) {
                    boolean knows = net.links.get(net.chosen).knows;
                    boolean old = !knows && net.next == 0 && time % 4 == 2;
                    ch[n] = channel(n, old ? net.old : net.map, time);
                }
            }
            boolean[] answersNow = new boolean[2];
            for (int n = 0; n < 2; n++) {
                if (ch[n] != NONE) {
                    answersNow[n] = packet(n, ch);
                }
            }
            // (e)
            int[] back = {NONE, NONE};
            for (int n = 0; n < 2; n++) {
                if (answersNow[n]) {
                    back[n] = channel(n, nets[n].links.get(nets[n].chosen).map, time + 1);
                }
            }
            for (int n = 0; n < 2; n++) {
                if (back[n] != NONE) {
                    answer(n, ch, back);
                }
            }
            // (f)
            for (N net : nets) {
                for (L l : net.links) {
                    if (l.frameAt != NONE && (time - l.frameAt) / 2 + 1 >= l.res[2]) {
                        l.missed++;
                        l.frameAt = NONE;
                    }
                }
            }
            time += 2;
        }

        int lossOf(int n, int[] ch) {
            if (draw() < noise[ch[n]]) {
                return 1;
            }
            return ch[0] == ch[1] ? 2 : 0;
        }

        boolean packet(int n, int[] ch) {
            N net = nets[n];
            packets++;
            int loss = lossOf(n, ch);
            if (net.chosen == -2) {
                castsSent++;
                lost[loss]++;
                if (loss == 0) {
                    for (L l : net.links) {
                        if (ready(n, l, time) && channel(n, l.map, time) == ch[n]
                                && l.castLast != net.castBit) {
                            l.castLast = net.castBit;
                            l.castsHeard.add(net.casts.getFirst());
                        }
                    }
                }
                net.castSent++;
                if (net.castSent >= repeats) {
                    net.casts.removeFirst();
                    net.castSent = 0;
                    net.castBit = 1 - net.castBit;
                }
                return false;
            }
            L l = net.links.get(net.chosen);
            net.sent[ch[n]]++;
            if (loss == 0 && channel(n, l.map, time) != ch[n]) {
                loss = 3;
            }
            lost[loss]++;
            if (loss != 0) {
                l.why = 10 + loss;
                return false;
            }
            if (!l.down.row.isEmpty() && l.down.bit != l.down.last) {
                l.down.last = l.down.bit;
                int v = l.down.row.getFirst().v();
                l.down.heard.add(v);
                heard++;
                for (L other : nets[1 - n].links) {
                    if (other.radio == l.radio && v >= 128) {
                        if (other.up.row.size() < 8) {
                            other.up.row.addLast(new Num(v, time));
                            passed++;
                        } else {
                            dropped++;
                        }
                    }
                }
            }
            if (!l.knows && net.next != 0) {
                l.next = net.next;
                l.instant = net.instant;
            } else if (!l.knows) {
                l.map = net.map;
                l.next = 0;
                l.instant = NONE;
            }
            if (l.ackWaits) {
                l.ackWaits = false;
                l.up.take(time);
            }
            return true;
        }

        void answer(int n, int[] ch, int[] back) {
            N net = nets[n];
            L l = net.links.get(net.chosen);
            answers++;
            int loss = lossOf(n, back);
            if (loss == 0 && channel(n, net.map, time + 1) != back[n]) {
                loss = 3;
            }
            lost[loss]++;
            if (loss != 0) {
                l.why = 20 + loss;
                return;
            }
            l.why = 0;
            l.latest = time;
            net.answered[ch[n]]++;
            if (!l.down.row.isEmpty()) {
                l.down.take(time);
            }
            if (!l.up.row.isEmpty()) {
                if (l.up.bit != l.up.last) {
                    l.up.last = l.up.bit;
                    l.up.heard.add(l.up.row.getFirst().v());
                    heard++;
                }
                l.ackWaits = true;
            }
            if (l.frameAt != NONE) {
                l.got++;
                l.frameAt = NONE;
            }
            l.knows = true;
        }

        int go(int n) {
            heard = 0;
            for (int i = 0; i < n; i++) {
                turn();
            }
            return heard;
        }

        int missedOfAll() {
            int sum = 0;
            for (N net : nets) {
                for (L l : net.links) {
                    sum += l.missed;
                }
            }
            return sum;
        }
    }

    static int kernelOf(int a, int c) {
        int z = ((a % 32) + (c % 32)) % 32;
        z = z ^ ((a / 32) % 32) ^ ((c / 128) % 32);
        int p = ((a / 1024) % 512) ^ ((c / 32) % 512);
        int[][] pairs = {{0, 3}, {1, 2}, {0, 1}, {2, 4}, {1, 4}, {0, 2}, {3, 4}, {1, 3}, {0, 4}};
        boolean[] b = new boolean[5];
        for (int i = 0; i < 5; i++) {
            b[i] = z % 2 == 1;
            z /= 2;
        }
        for (int[] pair : pairs) {
            if (p % 2 == 1) {
                boolean keep = b[pair[0]];
                b[pair[0]] = b[pair[1]];
                b[pair[1]] = keep;
            }
            p /= 2;
        }
        int back = 0;
        for (int i = 4; i >= 0; i--) {
            back = back * 2 + (b[i] ? 1 : 0);
        }
        return (back + (a / 524288) % 32 + (c % 2) * 13) % 23;
    }

    static int byMap(int hop, int map) {
        List<Integer> in = new ArrayList<>();
        for (int i = 0; i < 23; i++) {
            if ((map & 1 << i) != 0) {
                in.add(i);
            }
        }
        return in.contains(hop) ? hop : in.get(hop % in.size());
    }

    // ---- the calls ----

    W w = new W();
    record Past(W before, int act) {
    }
    LinkedList<Past> past = new LinkedList<>();
    W[] images = new W[2];
    int[] refused = new int[6];
    int status = 0;

    int no(int why) {
        refused[-why]++;
        status = why;
        return why;
    }

    int yes(int answer) {
        status = 0;
        return answer;
    }

    void keep(int act) {
        past.addLast(new Past(w.copy(), act));
        if (past.size() > 8) {
            past.removeFirst();
        }
    }

    static boolean in(int v, int lo, int hi) {
        return lo <= v && v <= hi;
    }

    static boolean even(int v, int lo, int hi) {
        return in(v, lo, hi) && v % 2 == 0;
    }

    N netOf(int n) {
        return in(n, 0, 1) && w.nets[n].master != NONE ? w.nets[n] : null;
    }

    L linkOf(int n, int l) {
        N net = netOf(n);
        return net != null && in(l, 0, net.links.size() - 1) ? net.links.get(l) : null;
    }

    boolean isRadio(int r) {
        return in(r, 0, w.radios.size() - 1);
    }

    int radio(int address) {
        if (!in(address, 0, 268435455)) {
            return no(-1);
        }
        if (w.radios.size() == 6) {
            return no(-5);
        }
        keep(0);
        w.radios.add(address);
        return yes(w.radios.size() - 1);
    }

    int net(int net, int master, int offset) {
        if (!in(net, 0, 1) || !in(offset, 0, 65535)) {
            return no(-1);
        }
        if (!isRadio(master)) {
            return no(-2);
        }
        if (w.nets[net].master != NONE || w.nets[1 - net].master == master) {
            return no(-4);
        }
        keep(1);
        w.nets[net].master = master;
        w.nets[net].offset = offset;
        return yes(0);
    }

    int join(int net, int radio) {
        if (netOf(net) == null || !isRadio(radio)) {
            return no(-2);
        }
        if (w.isIn(radio, net)) {
            return no(-4);
        }
        if (netOf(net).links.size() == 4) {
            return no(-5);
        }
        keep(2);
        N n = netOf(net);
        L l = new L();
        l.radio = radio;
        l.map = n.map;
        l.next = n.next;
        l.instant = n.instant;
        l.latest = w.time;
        n.links.add(l);
        return yes(n.links.size() - 1);
    }

    int leave(int net, int link) {
        if (linkOf(net, link) == null) {
            return no(-2);
        }
        keep(3);
        N n = netOf(net);
        n.links.remove(link);
        if (n.polled > link) {
            n.polled--;
        } else if (n.polled == link) {
            n.polled--;
            n.polls.clear();
        }
        return yes(n.links.size());
    }

    int noise(int channel, int v) {
        if (!in(channel, 0, 22) || !in(v, 0, 16)) {
            return no(-1);
        }
        keep(4);
        int was = w.noise[channel];
        w.noise[channel] = v;
        return yes(was);
    }

    int terms(int what, int v) {
        if (what == 0 && in(v, 0, 1000000)) {
            keep(5);
            int was = (int) w.seed;
            w.seed = v;
            return yes(was);
        }
        if (what == 1 && even(v, 0, 32)) {
            keep(5);
            int was = w.share;
            w.share = v;
            return yes(was);
        }
        if (what == 2 && in(v, 1, 4)) {
            keep(5);
            int was = w.repeats;
            w.repeats = v;
            return yes(was);
        }
        return no(-1);
    }

    int put(int net, int link, int which, int number) {
        if (!in(which, 0, 1) || !in(number, 0, 255)) {
            return no(-1);
        }
        if (linkOf(net, link) == null) {
            return no(-2);
        }
        L l = linkOf(net, link);
        Way way = which == 0 ? l.down : l.up;
        if (way.row.size() == 8) {
            return no(-5);
        }
        keep(6);
        way.row.addLast(new Num(number, w.time));
        return yes(way.row.size());
    }

    int reserve(int net, int link, int period, int phase, int window) {
        if (period != 0 && (!even(period, 6, 40) || !even(phase, 0, period - 1) || !in(window, 1, 3))) {
            return no(-1);
        }
        if (linkOf(net, link) == null) {
            return no(-2);
        }
        keep(7);
        L l = linkOf(net, link);
        int was = l.res == null ? 0 : 1;
        l.res = period == 0 ? null : new int[] {period, phase, window};
        l.got = 0;
        l.missed = 0;
        l.frameAt = NONE;
        return yes(was);
    }

    int sniff(int net, int link, int period, int tries) {
        if (period != 0 && (!even(period, 8, 64) || !in(tries, 1, 4))) {
            return no(-1);
        }
        if (linkOf(net, link) == null) {
            return no(-2);
        }
        keep(10);
        L l = linkOf(net, link);
        int was = l.sniff == null ? 0 : l.sniff[0];
        l.sniff = period == 0 ? null : new int[] {period, tries};
        return yes(was);
    }

    int weigh(int net, int link, int weight) {
        if (!in(weight, 1, 4)) {
            return no(-1);
        }
        if (linkOf(net, link) == null) {
            return no(-2);
        }
        keep(12);
        int was = linkOf(net, link).weight;
        linkOf(net, link).weight = weight;
        return yes(was);
    }

    int cast(int net, int number) {
        if (!in(number, 0, 255)) {
            return no(-1);
        }
        if (netOf(net) == null) {
            return no(-2);
        }
        if (netOf(net).casts.size() == 4) {
            return no(-5);
        }
        keep(11);
        netOf(net).casts.addLast(number);
        return yes(netOf(net).casts.size());
    }

    int tell(int net, int map, int turns) {
        keep(8);
        N n = netOf(net);
        n.next = map;
        n.instant = w.time + 2 * turns;
        for (L l : n.links) {
            l.knows = false;
        }
        return yes(n.instant);
    }

    int map(int net, int map, int turns) {
        if (map < 0 || map > ALL || Integer.bitCount(map) < 8 || !in(turns, 1, 100)) {
            return no(-1);
        }
        if (netOf(net) == null) {
            return no(-2);
        }
        if (netOf(net).next != 0) {
            return no(-4);
        }
        return tell(net, map, turns);
    }

    int badOf(N net, int n) {
        int bits = 0;
        for (int c = 0; c < 23; c++) {
            if ((net.map & 1 << c) != 0 && net.sent[c] >= n && net.answered[c] < net.sent[c] / 2.0) {
                bits += 1 << c;
            }
        }
        return bits;
    }

    int adapt(int net, int n, int turns) {
        if (!in(n, 1, 99) || !in(turns, 1, 100)) {
            return no(-1);
        }
        N of = netOf(net);
        if (of == null) {
            return no(-2);
        }
        int bad = badOf(of, n);
        if (of.next != 0 || bad == 0) {
            return no(-4);
        }
        int map = of.map - bad;
        if (Integer.bitCount(map) < 8) {
            List<Integer> order = new ArrayList<>();
            for (int c = 0; c < 23; c++) {
                if ((of.map & 1 << c) != 0) {
                    order.add(c);
                }
            }
            order.sort((x, y) -> of.answered[y] - of.answered[x]);
            map = 0;
            for (int c : order.subList(0, 8)) {
                map += 1 << c;
            }
        }
        return tell(net, map, turns);
    }

    int run(int n) {
        if (!in(n, 1, 200)) {
            return no(-1);
        }
        if (w.time + 2 * n > 99998) {
            return no(-4);
        }
        keep(9);
        return yes(w.go(n));
    }

    int undo() {
        if (past.isEmpty()) {
            return no(-4);
        }
        Past p = past.removeLast();
        w = p.before();
        return yes(p.act());
    }

    int image(int k) {
        if (!in(k, 0, 1)) {
            return no(-1);
        }
        images[k] = w.copy();
        return yes(w.time);
    }

    int back(int k) {
        if (!in(k, 0, 1)) {
            return no(-1);
        }
        if (images[k] == null) {
            return no(-4);
        }
        w = images[k].copy();
        past.clear();
        return yes(w.time);
    }

    int kernel(int a, int c) {
        return in(a, 0, 268435455) && in(c, 0, 999999) ? kernelOf(a, c) : NONE;
    }

    int hop(int net, int link, int slot) {
        if (netOf(net) == null || !in(slot, 0, 199999)) {
            return NONE;
        }
        if (link == NONE) {
            return w.channel(net, netOf(net).map, slot);
        }
        return linkOf(net, link) == null ? NONE : w.channel(net, linkOf(net, link).map, slot);
    }

    int alike(int net, int link, int what) {
        L l = linkOf(net, link);
        if (l == null || !in(what, 0, 2)) {
            return NONE;
        }
        N n = netOf(net);
        if (what == 2) {
            return l.knows ? 1 : 0;
        }
        boolean same = l.map == n.map;
        if (what == 0) {
            same = same && l.next == n.next && (n.next == 0 || l.instant == n.instant);
        }
        return same ? 1 : 0;
    }

    int mapOf(int net, int link, int what) {
        N n = netOf(net);
        if (n == null) {
            return NONE;
        }
        if (link == NONE && in(what, 0, 3)) {
            return new int[] {n.map, n.next, n.next == 0 ? NONE : n.instant, n.old}[what];
        }
        L l = linkOf(net, link);
        if (l == null || !in(what, 0, 2)) {
            return NONE;
        }
        return new int[] {l.map, l.next, l.next == 0 ? NONE : l.instant}[what];
    }

    boolean meet(int slot) {
        return w.channel(0, w.nets[0].map, slot) == w.channel(1, w.nets[1].map, slot);
    }

    int meets() {
        if (netOf(0) == null || netOf(1) == null) {
            return NONE;
        }
        for (int s = w.time; s < w.time + 4000; s++) {
            if (meet(s)) {
                return s;
            }
        }
        return NONE;
    }

    int used(int net, int channel, int n) {
        if (netOf(net) == null || !in(channel, 0, 22) || !in(n, 1, 512)) {
            return NONE;
        }
        int times = 0;
        for (int s = w.time; s < w.time + n; s++) {
            times += w.channel(net, netOf(net).map, s) == channel ? 1 : 0;
        }
        return times;
    }

    int bad(int net, int n) {
        return netOf(net) == null || !in(n, 1, 99) ? NONE : badOf(netOf(net), n);
    }

    int sent(int net, int channel, int what) {
        if (netOf(net) == null || !in(channel, 0, 22) || !in(what, 0, 1)) {
            return NONE;
        }
        return what == 0 ? netOf(net).sent[channel] : netOf(net).answered[channel];
    }

    int link(int net, int link, int what) {
        L l = linkOf(net, link);
        if (l == null || !in(what, 0, 16)) {
            return NONE;
        }
        return new int[] {l.radio, l.down.row.size(), l.up.row.size(), l.down.heard.size(), l.up.heard.size(),
            l.why, l.down.bit, l.down.last, l.up.bit, l.up.last, l.chosen, l.ready, l.castsHeard.size(),
            l.castLast, l.down.lag, l.up.lag, l.weight}[what];
    }

    int hash(int net, int link, int which) {
        L l = linkOf(net, link);
        if (l == null || !in(which, 0, 2)) {
            return 0;
        }
        return hashOf(which == 0 ? l.down.heard : which == 1 ? l.up.heard : l.castsHeard);
    }

    int reserved(int net, int link, int what) {
        L l = linkOf(net, link);
        if (l == null || l.res == null || !in(what, 0, 5)) {
            return NONE;
        }
        int left = l.frameAt == NONE ? 0 : l.res[2] - (w.time - l.frameAt) / 2;
        return new int[] {l.res[0], l.res[1], l.res[2], l.got, l.missed, left}[what];
    }

    int isThere(int radio, int net, int slot) {
        if (!isRadio(radio) || !in(net, 0, 1) || !in(slot, 0, 199999)) {
            return NONE;
        }
        return w.there(radio, net, slot) ? 1 : 0;
    }

    int odds(int net, int link, int n, int what) {
        L l = linkOf(net, link);
        if (l == null || !in(n, 1, 64) || !in(what, 0, 1)) {
            return NONE;
        }
        java.math.BigInteger up = java.math.BigInteger.ZERO;
        for (int i = 0; i < n; i++) {
            int t = w.time + 2 * i;
            int a = w.channel(net, netOf(net).map, t);
            int b = w.channel(net, netOf(net).map, t + 1);
            if (a == w.channel(net, l.map, t) && b == w.channel(net, l.map, t + 1)) {
                up = up.add(java.math.BigInteger.valueOf((16 - w.noise[a]) * (16 - w.noise[b])));
            }
        }
        java.math.BigInteger low = java.math.BigInteger.valueOf(256L * n);
        java.math.BigInteger g = up.gcd(low);
        return (what == 0 ? up : low).divide(g).intValue();
    }

    int clashes(int n) {
        if (netOf(0) == null || netOf(1) == null || !in(n, 1, 512)) {
            return NONE;
        }
        int times = 0;
        for (int s = w.time; s < w.time + n; s++) {
            times += meet(s) ? 1 : 0;
        }
        return times;
    }

    int bestOffset(int n) {
        if (clashes(n) == NONE) {
            return NONE;
        }
        int keep = w.nets[1].offset;
        int best = 0;
        int least = Integer.MAX_VALUE;
        for (int o = 0; o < 64; o++) {
            w.nets[1].offset = o;
            if (clashes(n) < least) {
                least = clashes(n);
                best = o;
            }
        }
        w.nets[1].offset = keep;
        return best;
    }

    int drain(int net, int link) {
        if (linkOf(net, link) == null) {
            return NONE;
        }
        W p = w.copy();
        for (int t = 0; ; t++) {
            L l = p.nets[net].links.get(link);
            if (l.down.row.isEmpty() && l.up.row.isEmpty()) {
                return t;
            }
            if (t == 400 || p.time == 99998) {
                return NONE;
            }
            p.turn();
        }
    }

    int would(int share, int n, int what) {
        if (!even(share, 0, 32) || !in(n, 1, 200) || !in(what, 0, 2) || w.time + 2 * n > 99998) {
            return NONE;
        }
        W p = w.copy();
        p.share = share;
        int heard = p.go(n);
        if (what == 0) {
            return heard;
        }
        if (what == 1) {
            return p.missedOfAll() - w.missedOfAll();
        }
        int others = 0;
        for (N net : p.nets) {
            for (L l : net.links) {
                others += l.map == net.map ? 0 : 1;
            }
        }
        return others;
    }

    int ready(int net, int link) {
        L l = linkOf(net, link);
        if (l == null) {
            return NONE;
        }
        for (int t = w.time; t < w.time + 200; t += 2) {
            if (w.ready(net, l, t)) {
                return t;
            }
        }
        return NONE;
    }

    int bothReady(int net, int link, int other, int n) {
        L a = linkOf(net, link);
        L b = linkOf(net, other);
        if (a == null || b == null || !in(n, 1, 200)) {
            return NONE;
        }
        int times = 0;
        for (int i = 0; i < n; i++) {
            times += w.ready(net, a, w.time + 2 * i) && w.ready(net, b, w.time + 2 * i) ? 1 : 0;
        }
        return times;
    }

    int ahead(int net, int n) {
        if (netOf(net) == null || !in(n, 1, 200) || w.time + 2 * n > 99998) {
            return NONE;
        }
        W p = w.copy();
        p.go(n);
        return p.nets[net].chosen;
    }

    int together(int net, int link, int other) {
        L a = linkOf(net, link);
        L b = linkOf(net, other);
        if (a == null || b == null || a == b || a.res == null || b.res == null) {
            return NONE;
        }
        for (int t = w.time; t < w.time + 2000; t += 2) {
            if (t % a.res[0] == a.res[1] && t % b.res[0] == b.res[1]) {
                return t;
            }
        }
        return NONE;
    }

    int ranked(int net, int i) {
        N n = netOf(net);
        if (n == null) {
            return NONE;
        }
        List<Integer> order = new ArrayList<>();
        for (int c = 0; c < 23; c++) {
            if (n.sent[c] > 0) {
                order.add(c);
            }
        }
        order.sort((x, y) -> Long.compare((long) n.answered[y] * n.sent[x], (long) n.answered[x] * n.sent[y]));
        return in(i, 0, order.size() - 1) ? order.get(i) : NONE;
    }

    int quiet(int net, int n) {
        if (netOf(net) == null || !in(n, 0, 9999)) {
            return NONE;
        }
        int bits = 0;
        List<L> links = netOf(net).links;
        for (int i = 0; i < links.size(); i++) {
            bits += w.time - links.get(i).latest >= 2 * n ? 1 << i : 0;
        }
        return bits;
    }

    int bestShare(int n) {
        if (!in(n, 1, 32) || w.time + 2 * n > 99998) {
            return NONE;
        }
        int best = 32;
        for (int s = 30; s >= 0; s -= 2) {
            best = would(s, n, 0) >= would(best, n, 0) ? s : best;
        }
        return best;
    }

    int ofNet(int net, int what) {
        N n = netOf(net);
        if (n == null || !in(what, 0, 6)) {
            return NONE;
        }
        return new int[] {n.master, n.offset, n.links.size(), n.polled, n.casts.size(), n.castSent, n.castBit}[what];
    }

    int count(int what) {
        int heard = 0;
        for (N n : w.nets) {
            for (L l : n.links) {
                heard += l.down.heard.size() + l.up.heard.size();
            }
        }
        int[] all = {w.time, w.radios.size(), (int) w.seed, w.share, heard, refused[1], refused[2], refused[4],
            refused[5], past.size(), w.packets, w.answers, w.lost[1], w.lost[2], w.lost[3], w.passed, w.dropped,
            w.castsSent, w.repeats, w.newMaps};
        return in(what, 0, 19) ? all[what] : NONE;
    }

    int status() {
        return status;
    }
}
