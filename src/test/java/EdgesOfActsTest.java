import java.util.List;
import java.util.function.IntSupplier;

/** Promises 1 to 18 at their edges: a method for each sentence that names one, which stands above it. */
public final class EdgesOfActsTest {
    private static final int MIN = Edge.MIN;
    private static final int MAX = Edge.MAX;

    // 1: "No RADIOS, no NETS."
    private static void aNewObjectHasNothing() {
        HopNet x = new HopNet();
        Check.due("1 no radios", x.count(1), 0);
        Edge.refused("1 net without a radio", x, -2, () -> x.net(0, 0, 0));
        for (int n = 0; n < 2; n++) {
            int net = n;
            Edge.refused("1 join", x, -2, () -> x.join(net, 0));
            Edge.refused("1 leave", x, -2, () -> x.leave(net, 0));
            Edge.refused("1 put", x, -2, () -> x.put(net, 0, 0, 0));
            Edge.refused("1 reserve", x, -2, () -> x.reserve(net, 0, 6, 0, 1));
            Edge.refused("1 reserve no more", x, -2, () -> x.reserve(net, 0, 0, 0, 0));
            Edge.refused("1 sniff", x, -2, () -> x.sniff(net, 0, 8, 1));
            Edge.refused("1 sniff no more", x, -2, () -> x.sniff(net, 0, 0, 0));
            Edge.refused("1 weigh", x, -2, () -> x.weigh(net, 0, 1));
            Edge.refused("1 cast", x, -2, () -> x.cast(net, 0));
            Edge.refused("1 map", x, -2, () -> x.map(net, 255, 1));
            Edge.refused("1 adapt", x, -2, () -> x.adapt(net, 1, 1));
        }
        Edge.refused("1 undo", x, -4, x::undo);
        Edge.refused("1 back", x, -4, () -> x.back(0));
        Edge.done("1 it runs all the same", x, 0, () -> x.run(1));
    }

    // 2: "A RADIO: its number. -1" with "an ADDRESS 0 .. 268,435,455".
    private static void radioAddress() {
        HopNet x = new HopNet();
        for (int address : new int[] {-1, 268435456, MIN, MAX}) {
            Edge.refused("2 address " + address, x, -1, () -> x.radio(address));
        }
        Edge.done("2 least address", x, 0, () -> x.radio(0));
        Edge.done("2 greatest address", x, 1, () -> x.radio(268435455));
        x.net(0, 0, 0);
        x.net(1, 1, 0);
        Check.due("2 the least is kept", x.hop(0, -1, 77), x.kernel(0, 77));
        Check.due("2 the greatest is kept", x.hop(1, -1, 77), x.kernel(268435455, 77));
    }

    // 2: "-5" with "RADIOS 0 .. 5".
    private static void radioRoom() {
        HopNet x = new HopNet();
        for (int i = 0; i < 6; i++) {
            Edge.done("2 radio " + i, x, i, () -> x.radio(7));
        }
        Edge.refused("2 a seventh", x, -5, () -> x.radio(7));
        Edge.refused("2 a seventh again", x, -5, () -> x.radio(0));
        Edge.refused("2 -1 ahead of -5, below", x, -1, () -> x.radio(-1));
        Edge.refused("2 -1 ahead of -5, above", x, -1, () -> x.radio(268435456));
        x.undo();
        Edge.done("2 room again", x, 5, () -> x.radio(7));
    }

    // 3: "-1 (NET, OFFSET)".
    private static void netNumbers() {
        HopNet x = new HopNet();
        x.radio(1);
        x.radio(2);
        for (int net : new int[] {-1, 2, MIN, MAX}) {
            Edge.refused("3 net " + net, x, -1, () -> x.net(net, 0, 0));
        }
        for (int offset : new int[] {-1, 65536, MIN, MAX}) {
            Edge.refused("3 offset " + offset, x, -1, () -> x.net(0, 0, offset));
        }
        Edge.done("3 least net and offset", x, 0, () -> x.net(0, 0, 0));
        Edge.done("3 greatest net and offset", x, 0, () -> x.net(1, 1, 65535));
        Edge.all("3 least offset", 0, x.ofNet(0, 1));
        Edge.all("3 greatest offset", 65535, x.ofNet(1, 1));
    }

    // 3: "-2".
    private static void netOfNoRadio() {
        HopNet x = new HopNet();
        Edge.refused("3 there is no radio at all", x, -2, () -> x.net(0, 0, 0));
        x.radio(1);
        x.radio(2);
        for (int master : new int[] {-1, 2, 5, 6, MIN, MAX}) {
            Edge.refused("3 radio " + master, x, -2, () -> x.net(0, master, 0));
        }
        Edge.done("3 the last radio", x, 0, () -> x.net(0, 1, 0));
        Check.due("3 is master", x.ofNet(0, 0), 1);
    }

    // 3: "-4 (it has one; the RADIO is MASTER of the other)".
    private static void netByWhatStands() {
        HopNet x = new HopNet();
        x.radio(1);
        x.radio(2);
        x.net(1, 0, 5);
        Edge.refused("3 it has one", x, -4, () -> x.net(1, 1, 6));
        Edge.refused("3 it has this one", x, -4, () -> x.net(1, 0, 5));
        Edge.refused("3 master of the other", x, -4, () -> x.net(0, 0, 6));
        x.net(0, 1, 0);
        Edge.refused("3 both", x, -4, () -> x.net(0, 0, 6));
        x.undo();
        x.join(1, 1);
        Edge.done("3 a member of the other may be", x, 0, () -> x.net(0, 1, 0));
    }

    // 3: the first of -1, -2, -4.
    private static void netByTwoGrounds() {
        HopNet x = new HopNet();
        x.radio(1);
        x.radio(2);
        x.net(0, 0, 0);
        Edge.refused("3 -1 (net) ahead of -2", x, -1, () -> x.net(2, 9, 0));
        Edge.refused("3 -1 (offset) ahead of -2", x, -1, () -> x.net(1, 9, 65536));
        Edge.refused("3 -1 (net) ahead of -4", x, -1, () -> x.net(2, 0, 0));
        Edge.refused("3 -1 (offset) ahead of -4", x, -1, () -> x.net(0, 1, -1));
        Edge.refused("3 -2 ahead of -4", x, -2, () -> x.net(0, 2, 0));
        Edge.refused("3 -1 ahead of -2 and -4", x, -1, () -> x.net(0, 2, -1));
    }

    // 4: "-2 (a NET that is not there, too)".
    private static void joinOfNone() {
        HopNet x = new HopNet();
        x.radio(1);
        x.radio(2);
        Edge.refused("4 net 0 is not there", x, -2, () -> x.join(0, 0));
        x.net(0, 0, 0);
        Edge.refused("4 net 1 is not there", x, -2, () -> x.join(1, 1));
        for (int net : new int[] {-1, 2, MIN, MAX}) {
            Edge.refused("4 net " + net, x, -2, () -> x.join(net, 1));
        }
        for (int radio : new int[] {-1, 2, 5, 6, MIN, MAX}) {
            Edge.refused("4 radio " + radio, x, -2, () -> x.join(0, radio));
        }
        Edge.done("4 the last radio", x, 0, () -> x.join(0, 1));
    }

    // 4: "-4 (it is in it)".
    private static void joinOfOneThatIsInIt() {
        HopNet x = Scene.oneNet(3);
        Edge.refused("4 the master", x, -4, () -> x.join(0, 0));
        for (int i = 1; i <= 3; i++) {
            int radio = i;
            Edge.refused("4 member " + i, x, -4, () -> x.join(0, radio));
        }
        x.leave(0, 1);
        Edge.done("4 one that left may come again", x, 2, () -> x.join(0, 2));
    }

    // 4: "-5", with "LINKS .. 0 .. 3 as they came"; and the first of -2, -4, -5.
    private static void joinRoom() {
        HopNet x = new HopNet();
        for (int i = 0; i < 6; i++) {
            x.radio(i);
        }
        x.net(0, 5, 0);
        for (int i = 0; i < 4; i++) {
            int radio = 3 - i;
            Edge.done("4 link " + i, x, i, () -> x.join(0, radio));
            Check.due("4 as they came", x.link(0, i, 0), radio);
        }
        Edge.refused("4 a fifth", x, -5, () -> x.join(0, 4));
        Edge.refused("4 -2 ahead of -5", x, -2, () -> x.join(0, 6));
        Edge.refused("4 -4 (a member) ahead of -5", x, -4, () -> x.join(0, 0));
        Edge.refused("4 -4 (the master) ahead of -5", x, -4, () -> x.join(0, 5));
        x.leave(0, 0);
        Edge.done("4 room again", x, 3, () -> x.join(0, 4));
    }

    // 5: "-2."
    private static void leaveOfNone() {
        HopNet x = Scene.oneNet(4);
        for (int link : new int[] {-1, 4, MIN, MAX}) {
            Edge.refused("5 link " + link, x, -2, () -> x.leave(0, link));
        }
        for (int net : new int[] {-1, 1, 2, MIN, MAX}) {
            Edge.refused("5 net " + net, x, -2, () -> x.leave(net, 0));
        }
        Edge.done("5 the last link", x, 3, () -> x.leave(0, 3));
        Edge.refused("5 it is gone", x, -2, () -> x.leave(0, 3));
        for (int left = 2; left >= 0; left--) {
            Edge.done("5 the first link", x, left, () -> x.leave(0, 0));
        }
        Edge.refused("5 nobody is left", x, -2, () -> x.leave(0, 0));
    }

    // 5: "LINKS above have a number 1 less".
    private static void leaveMovesLinksAbove() {
        HopNet x = Scene.oneNet(4);
        x.weigh(0, 3, 4);
        x.put(0, 2, 0, 1);
        x.leave(0, 1);
        int[] members = {1, 3, 4};
        for (int link = 0; link < 3; link++) {
            Check.due("5 member of " + link, x.link(0, link, 0), members[link]);
        }
        Check.due("5 its row goes with it", x.link(0, 1, 1), 1);
        Check.due("5 its weight goes with it", x.link(0, 2, 16), 4);
        Check.due("5 no link above", x.link(0, 3, 0), HopNet.NONE);
    }

    // 5: "(POLLED: that of the same MEMBER".
    private static void leaveKeepsPolled() {
        HopNet x = Scene.oneNet(4);
        x.weigh(0, 2, 3);
        x.run(3);
        Check.due("5 polled", x.ofNet(0, 3), 2);
        x.leave(0, 3);
        Check.due("5 one above left", x.ofNet(0, 3), 2);
        x.leave(0, 0);
        Check.due("5 one below left", x.ofNet(0, 3), 1);
        int[] due = {1, 1, 0, 1, 1, 1, 0};
        for (int i = 0; i < due.length; i++) {
            Check.due("5 its row goes on", x.ahead(0, i + 1), due[i]);
        }
    }

    // 5: "1 less, if it left": the first one leaves, so that it is NONE.
    private static void leaveOfPolledAtTheBottom() {
        HopNet x = Scene.oneNet(3);
        x.run(1);
        Check.due("5 the first is polled", x.ofNet(0, 3), 0);
        x.leave(0, 0);
        Check.due("5 none is polled", x.ofNet(0, 3), HopNet.NONE);
        Check.due("5 the one that was behind it is next", x.ahead(0, 1), 0);
        Check.due("5 then the one behind that", x.ahead(0, 2), 1);
    }

    // 5: "and that one is not CHOSEN as POLLED itself then": at the top the round goes on with 0.
    private static void leaveOfPolledAtTheTop() {
        HopNet x = Scene.oneNet(4);
        x.weigh(0, 2, 4);
        x.run(7);
        Check.due("5 the last is polled", x.ofNet(0, 3), 3);
        x.leave(0, 3);
        Check.due("5 the one below, it seems", x.ofNet(0, 3), 2);
        Check.due("5 but the round goes on", x.ahead(0, 1), 0);
        x.leave(0, 0);
        x.leave(0, 0);
        Check.due("5 that one alone", x.ofNet(0, 3), 0);
        Check.due("5 it is next, round", x.ahead(0, 1), 0);
    }

    // 6: "-1", with "CHANNELS 0 .. 22" and "NOISE of a CHANNEL 0 .. 16 (0 at first)".
    private static void noiseNumbers() {
        HopNet x = Scene.oneNet(1);
        for (int channel : new int[] {-1, 23, MIN, MAX}) {
            Edge.refused("6 channel " + channel, x, -1, () -> x.noise(channel, 0));
        }
        for (int v : new int[] {-1, 17, MIN, MAX}) {
            Edge.refused("6 v " + v, x, -1, () -> x.noise(0, v));
        }
        Edge.refused("6 both", x, -1, () -> x.noise(23, 17));
        for (int c = 0; c < 23; c++) {
            int channel = c;
            Edge.done("6 at first, greatest v", x, 0, () -> x.noise(channel, 16));
        }
        for (int c = 0; c < 23; c++) {
            int channel = c;
            Edge.done("6 what it was, least v", x, 16, () -> x.noise(channel, 0));
            Edge.done("6 what it is", x, 0, () -> x.noise(channel, 0));
        }
    }

    // 7: "SEED (what 0), SHARE (1; even, 0 .. 32), REPEATS (2): what it was. -1."
    private static void termsNumbers() {
        HopNet x = Scene.twoNets();
        int[] least = {0, 0, 1};
        int[] greatest = {1000000, 32, 4};
        int[] atFirst = {1, 16, 2};
        int[] told = {2, 3, 18};
        for (int i = 0; i < 3; i++) {
            int what = i;
            int step = what == 1 ? 2 : 1;
            for (int v : new int[] {least[i] - step, greatest[i] + step, MIN, MAX}) {
                Edge.refused("7 of " + what + " " + v, x, -1, () -> x.terms(what, v));
            }
            Edge.done("7 of " + what + " at first", x, atFirst[i], () -> x.terms(what, least[what]));
            Check.due("7 least of " + what, x.count(told[i]), least[i]);
            Edge.done("7 what it was", x, least[i], () -> x.terms(what, greatest[what]));
            Check.due("7 greatest of " + what, x.count(told[i]), greatest[i]);
        }
        for (int share : new int[] {-1, 1, 15, 31, 33}) {
            Edge.refused("7 share is even", x, -1, () -> x.terms(1, share));
        }
        for (int what : new int[] {-1, 3, MIN, MAX}) {
            Edge.refused("7 what " + what, x, -1, () -> x.terms(what, 2));
        }
    }

    // 7: "what it was" of a SEED is what DRAWS have made of it, even above 1,000,000.
    private static void termsOfASeedThatWasDrawn() {
        for (int drawn : new int[] {1000001, 1000002, 0}) {
            int before = 0;
            while ((1103 * before + 12345) % 1000003 != drawn) {
                before++;
            }
            HopNet x = Scene.oneNet(1);
            int seed = before;
            x.noise(x.hop(0, -1, 0), 16);
            Edge.done("7 a seed", x, 1, () -> x.terms(0, seed));
            x.run(1);
            Check.due("7 one draw", x.count(2), drawn);
            Edge.done("7 what it was", x, drawn, () -> x.terms(0, 5));
            x.undo();
            x.noise(x.hop(0, -1, 2), 16);
            x.run(1);
            Check.due("7 draws go on", x.count(2), (1103L * drawn + 12345) % 1000003);
        }
    }

    // 8: "DOWN (which 0), UP (1)", "NUMBERS 0 .. 255": "-1"; "-2".
    private static void putNumbers() {
        HopNet x = Scene.twoNets();
        for (int which : new int[] {-1, 2, MIN, MAX}) {
            Edge.refused("8 which " + which, x, -1, () -> x.put(0, 0, which, 0));
        }
        for (int number : new int[] {-1, 256, MIN, MAX}) {
            Edge.refused("8 number " + number, x, -1, () -> x.put(0, 0, 0, number));
        }
        for (int net : new int[] {-1, 2, MIN, MAX}) {
            Edge.refused("8 net " + net, x, -2, () -> x.put(net, 0, 0, 0));
        }
        for (int link : new int[] {-1, 2, 3, 4, MIN, MAX}) {
            Edge.refused("8 link " + link, x, -2, () -> x.put(0, link, 0, 0));
        }
        Edge.done("8 least number", x, 1, () -> x.put(0, 1, 0, 0));
        Edge.done("8 greatest number", x, 2, () -> x.put(0, 1, 0, 255));
        Edge.done("8 up is another row", x, 1, () -> x.put(0, 1, 1, 255));
        Edge.refused("8 -1 (which) ahead of -2", x, -1, () -> x.put(2, 0, 2, 0));
        Edge.refused("8 -1 (number) ahead of -2", x, -1, () -> x.put(0, 2, 0, 256));
    }

    // 8: "-5", with "8 at most".
    private static void putRoom() {
        HopNet x = Scene.oneNet(1);
        for (int w = 0; w < 2; w++) {
            int which = w;
            for (int i = 1; i <= 8; i++) {
                Edge.done("8 how many it has", x, i, () -> x.put(0, 0, which, 9));
            }
            Edge.refused("8 a ninth", x, -5, () -> x.put(0, 0, which, 9));
            Edge.refused("8 -1 ahead of -5", x, -1, () -> x.put(0, 0, which, 256));
        }
        x.run(1);
        Edge.done("8 one of down was taken away", x, 8, () -> x.put(0, 0, 0, 9));
        Edge.refused("8 none of up was yet", x, -5, () -> x.put(0, 0, 1, 9));
        x.run(1);
        Edge.done("8 one of up was taken away", x, 8, () -> x.put(0, 0, 1, 9));
        Edge.refused("8 full again", x, -5, () -> x.put(0, 0, 1, 9));
    }

    // 9: "a PERIOD (even, 6 .. 40), a PHASE (even, below it), a WINDOW 1 .. 3": "-1".
    private static void reserveNumbers() {
        HopNet x = Scene.twoNets();
        for (int period : new int[] {-2, -1, 1, 2, 4, 5, 7, 39, 41, 42, MIN, MAX}) {
            Edge.refused("9 period " + period, x, -1, () -> x.reserve(0, 0, period, 0, 1));
        }
        for (int phase : new int[] {-2, -1, 1, 5, 6, 7, 8, MIN, MAX}) {
            Edge.refused("9 phase " + phase, x, -1, () -> x.reserve(0, 0, 6, phase, 1));
        }
        for (int window : new int[] {-1, 0, 4, MIN, MAX}) {
            Edge.refused("9 window " + window, x, -1, () -> x.reserve(0, 0, 6, 0, window));
        }
        Edge.refused("9 greatest phase and beyond", x, -1, () -> x.reserve(0, 0, 40, 40, 1));
        Edge.done("9 least ones", x, 0, () -> x.reserve(0, 0, 6, 0, 1));
        Edge.done("9 greatest phase of the least period", x, 1, () -> x.reserve(0, 0, 6, 4, 1));
        Edge.done("9 greatest ones", x, 1, () -> x.reserve(0, 0, 40, 38, 3));
        Edge.all("9 told", 40383, x.reserved(0, 0, 0) * 1000 + x.reserved(0, 0, 1) * 10 + x.reserved(0, 0, 2));
    }

    // 9: "(PERIOD 0: not any more; PHASE, WINDOW are not asked): 1 if it was, else 0."
    private static void reserveNoMore() {
        HopNet x = Scene.twoNets();
        Edge.done("9 it was not", x, 0, () -> x.reserve(0, 1, 0, 0, 0));
        x.reserve(0, 1, 8, 0, 2);
        Edge.done("9 it was", x, 1, () -> x.reserve(0, 1, 0, MIN, MAX));
        Edge.all("9 it is not", HopNet.NONE, x.reserved(0, 1, 0), x.reserved(0, 1, 5));
        Edge.done("9 not any more, phase odd", x, 0, () -> x.reserve(0, 1, 0, 1, 4));
    }

    // 9: "-2", and -1 ahead of it.
    private static void reserveOfNone() {
        HopNet x = Scene.twoNets();
        for (int net : new int[] {-1, 2, MIN, MAX}) {
            Edge.refused("9 net " + net, x, -2, () -> x.reserve(net, 0, 6, 0, 1));
        }
        for (int link : new int[] {-1, 2, 4, MIN, MAX}) {
            Edge.refused("9 link " + link, x, -2, () -> x.reserve(0, link, 6, 0, 1));
            Edge.refused("9 no more, link " + link, x, -2, () -> x.reserve(0, link, 0, 9, 9));
        }
        Edge.refused("9 -1 (period) ahead of -2", x, -1, () -> x.reserve(0, 2, 4, 0, 1));
        Edge.refused("9 -1 (phase) ahead of -2", x, -1, () -> x.reserve(2, 0, 6, 6, 1));
        Edge.refused("9 -1 (window) ahead of -2", x, -1, () -> x.reserve(0, 2, 6, 0, 4));
    }

    // 9: "in place of what was, an open FRAME is no more, GOT, MISSED are 0".
    private static void reserveInPlaceOfWhatWas() {
        HopNet x = Scene.oneNet(1);
        x.reserve(0, 0, 6, 0, 2);
        x.run(1);
        Scene.noise(x, 16);
        x.run(6);
        Edge.all("9 got", 1, x.reserved(0, 0, 3));
        Edge.all("9 missed", 1, x.reserved(0, 0, 4));
        Edge.all("9 open", 1, x.reserved(0, 0, 5));
        Edge.done("9 the same again", x, 1, () -> x.reserve(0, 0, 6, 0, 2));
        Edge.all("9 got, missed, open", 0, x.reserved(0, 0, 3), x.reserved(0, 0, 4), x.reserved(0, 0, 5));
        x.run(1);
        Edge.all("9 the open one is not missed later", 0, x.reserved(0, 0, 4));
    }

    // 10: "a PERIOD (even, 8 .. 64), TRIES 1 .. 4": "-1".
    private static void sniffNumbers() {
        HopNet x = Scene.twoNets();
        for (int period : new int[] {-8, -1, 1, 2, 6, 7, 9, 63, 65, 66, MIN, MAX}) {
            Edge.refused("10 period " + period, x, -1, () -> x.sniff(0, 0, period, 1));
        }
        for (int tries : new int[] {-1, 0, 5, MIN, MAX}) {
            Edge.refused("10 tries " + tries, x, -1, () -> x.sniff(0, 0, 8, tries));
        }
        Edge.done("10 least ones", x, 0, () -> x.sniff(0, 0, 8, 1));
        Edge.done("10 greatest ones", x, 8, () -> x.sniff(0, 0, 64, 4));
        Edge.done("10 as it was", x, 64, () -> x.sniff(0, 0, 64, 1));
    }

    // 10: "(PERIOD 0: not any more; TRIES are not asked): the PERIOD as it was (0 without)."
    private static void sniffNoMore() {
        HopNet x = Scene.twoNets();
        Edge.done("10 without", x, 0, () -> x.sniff(0, 1, 0, 0));
        x.sniff(0, 1, 64, 1);
        x.run(1);
        Check.due("10 it sleeps", x.ready(0, 1), 64);
        Edge.done("10 not any more", x, 64, () -> x.sniff(0, 1, 0, MIN));
        Check.due("10 it is awake", x.ready(0, 1), 2);
        Edge.done("10 without again", x, 0, () -> x.sniff(0, 1, 0, MAX));
    }

    // 10: "-2", and -1 ahead of it.
    private static void sniffOfNone() {
        HopNet x = Scene.twoNets();
        for (int net : new int[] {-1, 2, MIN, MAX}) {
            Edge.refused("10 net " + net, x, -2, () -> x.sniff(net, 0, 8, 1));
        }
        for (int link : new int[] {-1, 2, 4, MIN, MAX}) {
            Edge.refused("10 link " + link, x, -2, () -> x.sniff(0, link, 8, 1));
            Edge.refused("10 no more, link " + link, x, -2, () -> x.sniff(0, link, 0, 9));
        }
        Edge.refused("10 -1 (period) ahead of -2", x, -1, () -> x.sniff(0, 2, 6, 1));
        Edge.refused("10 -1 (tries) ahead of -2", x, -1, () -> x.sniff(2, 0, 8, 5));
    }

    // 11: "a WEIGHT 1 .. 4 (1 at first)": "what it was. -1; -2."
    private static void weighNumbers() {
        HopNet x = Scene.twoNets();
        for (int weight : new int[] {-1, 0, 5, MIN, MAX}) {
            Edge.refused("11 weight " + weight, x, -1, () -> x.weigh(0, 0, weight));
        }
        for (int net : new int[] {-1, 2, MIN, MAX}) {
            Edge.refused("11 net " + net, x, -2, () -> x.weigh(net, 0, 1));
        }
        for (int link : new int[] {-1, 2, 4, MIN, MAX}) {
            Edge.refused("11 link " + link, x, -2, () -> x.weigh(0, link, 4));
        }
        Edge.refused("11 -1 ahead of -2", x, -1, () -> x.weigh(0, 2, 5));
        Edge.done("11 at first", x, 1, () -> x.weigh(0, 0, 4));
        Edge.done("11 greatest", x, 4, () -> x.weigh(0, 0, 1));
        Edge.done("11 least", x, 1, () -> x.weigh(0, 0, 1));
    }

    // 12: "how many there are. -1; -2; -5", with "NUMBERS 0 .. 255, 4 at most".
    private static void castNumbersAndRoom() {
        HopNet x = Scene.twoNets();
        for (int number : new int[] {-1, 256, MIN, MAX}) {
            Edge.refused("12 number " + number, x, -1, () -> x.cast(0, number));
        }
        for (int net : new int[] {-1, 2, MIN, MAX}) {
            Edge.refused("12 net " + net, x, -2, () -> x.cast(net, 0));
        }
        Edge.refused("12 -1 ahead of -2", x, -1, () -> x.cast(2, 256));
        Edge.done("12 least number", x, 1, () -> x.cast(0, 0));
        Edge.done("12 greatest number", x, 2, () -> x.cast(0, 255));
        Edge.done("12 a third", x, 3, () -> x.cast(0, 1));
        Edge.done("12 a fourth", x, 4, () -> x.cast(0, 1));
        Edge.refused("12 a fifth", x, -5, () -> x.cast(0, 1));
        Edge.refused("12 -1 ahead of -5", x, -1, () -> x.cast(0, 256));
        Edge.done("12 the other net has room", x, 1, () -> x.cast(1, 1));
        x.run(1);
        Edge.refused("12 it was sent once of two times", x, -5, () -> x.cast(0, 1));
        x.run(1);
        Edge.done("12 room again", x, 4, () -> x.cast(0, 1));
    }

    // 13: "-1 (a MAP of fewer than 8, others than CHANNELS)".
    private static void mapNumbers() {
        HopNet x = Scene.twoNets();
        int[] wrong = {0, 1, 127, 0x7f0000, 1 << 23, 1 << 23 | 255, 1 << 30 | 255, MIN, MIN | 255, -1, MAX};
        for (int map : wrong) {
            Edge.refused("13 map " + map, x, -1, () -> x.map(0, map, 1));
        }
        for (int map : new int[] {255, 0x7f8000, 0x555555 & ~(15 << 16), Scene.ALL}) {
            HopNet y = Scene.twoNets();
            Edge.done("13 map " + map, y, 2, () -> y.map(0, map, 1));
            Check.due("13 next", y.mapOf(0, -1, 1), map);
        }
    }

    // 13: "so many TURNS (1 .. 100) from now: the INSTANT."
    private static void mapTurns() {
        HopNet x = Scene.twoNets();
        for (int turns : new int[] {-1, 0, 101, MIN, MAX}) {
            Edge.refused("13 turns " + turns, x, -1, () -> x.map(0, 255, turns));
        }
        x.run(3);
        Edge.done("13 least turns", x, 8, () -> x.map(0, 255, 1));
        Edge.done("13 greatest turns", x, 206, () -> x.map(1, 255, 100));
        Scene.runTo(x, 99998);
        Check.due("13 both were reached", x.count(19), 2);
        Edge.done("13 an instant beyond the last time", x, 100198, () -> x.map(1, 511, 100));
    }

    // 13: "-2; -4 (there is a NEXT one)", till the TURN at its INSTANT has begun.
    private static void mapByWhatStands() {
        HopNet x = Scene.twoNets();
        for (int net : new int[] {-1, 2, MIN, MAX}) {
            Edge.refused("13 net " + net, x, -2, () -> x.map(net, 255, 1));
        }
        Edge.refused("13 -1 (map) ahead of -2", x, -1, () -> x.map(2, 127, 1));
        Edge.refused("13 -1 (turns) ahead of -2", x, -1, () -> x.map(2, 255, 101));
        x.map(0, 255, 2);
        Edge.refused("13 there is a next one", x, -4, () -> x.map(0, 511, 1));
        Edge.refused("13 the same", x, -4, () -> x.map(0, 255, 2));
        Edge.refused("13 -1 (map) ahead of -4", x, -1, () -> x.map(0, 127, 1));
        Edge.refused("13 -1 (turns) ahead of -4", x, -1, () -> x.map(0, 511, 0));
        x.run(2);
        Edge.refused("13 its turn has not begun", x, -4, () -> x.map(0, 511, 1));
        x.run(1);
        Edge.done("13 it is the map now", x, 8, () -> x.map(0, 511, 1));
    }

    /** One LINK in step by a MAP of the least CHANNELS, and NOISE 16 on some of these. */
    private static HopNet noisy(int howMany, int noisyBits) {
        HopNet x = Scene.oneNet(1);
        x.map(0, (1 << howMany) - 1, 1);
        x.run(2);
        for (int channel = 0; channel < 23; channel++) {
            x.noise(channel, (noisyBits >> channel & 1) * 16);
        }
        x.run(100);
        return x;
    }

    /** NOISE on so many of the CHANNELS below howMany by which these alone are BAD, or 0. */
    private static int bitsThatAreBad(int howMany, int noisyOnes) {
        for (int bits = 1; bits < 1 << howMany; bits++) {
            if (Integer.bitCount(bits) == noisyOnes && noisy(howMany, bits).bad(0, 1) == bits) {
                return bits;
            }
        }
        return 0;
    }

    // 14: "the MAP without its BAD CHANNELS by n": 8 are left.
    private static void adaptLeavesEight() {
        int bits = bitsThatAreBad(9, 1);
        Check.that("14 one of nine is bad", bits != 0);
        HopNet x = noisy(9, bits);
        int now = x.count(0);
        Edge.done("14 eight are left", x, now + 200, () -> x.adapt(0, 1, 100));
        Check.due("14 these", x.mapOf(0, -1, 1), 511 & ~bits);
        Check.due("14 the master knows of no link", x.alike(0, 0, 2), 0);
    }

    // 14: "would it have fewer than 8, of these the 8 of the MAP with most ANSWERED".
    private static void adaptWouldLeaveSeven() {
        int bits = bitsThatAreBad(9, 2);
        Check.that("14 two of nine are bad", bits != 0);
        HopNet x = noisy(9, bits);
        int one = Integer.numberOfTrailingZeros(bits);
        int other = Integer.numberOfTrailingZeros(bits & bits - 1);
        int out = x.sent(0, other, 1) > x.sent(0, one, 1) ? one : other;
        Edge.done("14 seven would be left", x, x.count(0) + 2, () -> x.adapt(0, 1, 1));
        Check.due("14 so eight of the map", x.mapOf(0, -1, 1), 511 & ~(1 << out));
        int bit = bitsThatAreBad(8, 1);
        Check.that("14 one of eight is bad", bit != 0);
        HopNet y = noisy(8, bit);
        Edge.done("14 all eight stay", y, y.count(0) + 2, () -> y.adapt(0, 1, 1));
        Check.due("14 the same map", y.mapOf(0, -1, 1), 255);
    }

    // 14: "by n (1 .. 99)", TURNS 1 .. 100: "-1; -2".
    private static void adaptNumbers() {
        HopNet x = Scene.oneNet(1);
        x.noise(x.hop(0, -1, 0), 16);
        x.run(1);
        for (int n : new int[] {-1, 0, 100, MIN, MAX}) {
            Edge.refused("14 n " + n, x, -1, () -> x.adapt(0, n, 1));
        }
        for (int turns : new int[] {-1, 0, 101, MIN, MAX}) {
            Edge.refused("14 turns " + turns, x, -1, () -> x.adapt(0, 1, turns));
        }
        for (int net : new int[] {-1, 1, 2, MIN, MAX}) {
            Edge.refused("14 net " + net, x, -2, () -> x.adapt(net, 1, 1));
        }
        Edge.refused("14 -1 (n) ahead of -2", x, -1, () -> x.adapt(1, 0, 1));
        Edge.refused("14 -1 (turns) ahead of -2", x, -1, () -> x.adapt(2, 1, 101));
        Edge.done("14 least ones", x, 4, () -> x.adapt(0, 1, 1));
    }

    // 14: "-4 (there is a NEXT one; none is BAD)".
    private static void adaptByWhatStands() {
        HopNet x = Scene.oneNet(1);
        Edge.refused("14 none was sent", x, -4, () -> x.adapt(0, 1, 1));
        Edge.refused("14 -1 (n) ahead of -4", x, -1, () -> x.adapt(0, 100, 1));
        x.map(0, 255, 5);
        Edge.refused("14 none is bad, and there is a next one", x, -4, () -> x.adapt(0, 1, 1));
        x.undo();
        x.noise(x.hop(0, -1, 0), 16);
        x.run(1);
        Edge.refused("14 one was sent, not two", x, -4, () -> x.adapt(0, 2, 1));
        Edge.refused("14 nor 99", x, -4, () -> x.adapt(0, 99, 1));
        x.map(0, 255, 5);
        Edge.refused("14 there is a next one", x, -4, () -> x.adapt(0, 1, 1));
        Edge.refused("14 -1 (turns) ahead of -4", x, -1, () -> x.adapt(0, 1, 0));
        x.undo();
        Edge.done("14 one is bad, and there is none", x, 202, () -> x.adapt(0, 1, 100));
    }

    // 14: "by n": a CHANNEL with SENT 99 is BAD by 99.
    private static void adaptByNinetyNine() {
        HopNet x = Scene.oneNet(1);
        x.map(0, 255, 1);
        x.run(2);
        Scene.noise(x, 16);
        int turns = 0;
        while (x.bad(0, 99) == 0 && turns < 3000) {
            Edge.all("14 none is bad by 99", -4, x.adapt(0, 99, 1));
            x.run(1);
            turns++;
        }
        int channel = Integer.numberOfTrailingZeros(x.bad(0, 99));
        Check.due("14 sent", x.sent(0, channel, 0), 99);
        Edge.done("14 one is bad by 99", x, x.count(0) + 2, () -> x.adapt(0, 99, 1));
    }

    // 15: "n 1 .. 200": "-1".
    private static void runNumbers() {
        HopNet x = Scene.twoNets();
        for (int n : new int[] {-1, 0, 201, MIN, MAX}) {
            Edge.refused("15 n " + n, x, -1, () -> x.run(n));
        }
        Edge.done("15 least n", x, 0, () -> x.run(1));
        Check.due("15 one turn", x.count(0), 2);
        Edge.done("15 greatest n", x, 0, () -> x.run(200));
        Check.due("15 two hundred more", x.count(0), 402);
    }

    // 15: "-4 (TIME would be above 99,998)".
    private static void runToTheEnd() {
        HopNet x = Scene.twoNets();
        Scene.runTo(x, 99598);
        Edge.done("15 two hundred turns to the last time", x, 0, () -> x.run(200));
        Check.due("15 the last time", x.count(0), 99998);
        x.undo();
        x.run(1);
        Edge.refused("15 one too many", x, -4, () -> x.run(200));
        Edge.refused("15 -1 ahead of -4", x, -1, () -> x.run(201));
        Edge.done("15 just enough", x, 0, () -> x.run(199));
        Check.due("15 the last time again", x.count(0), 99998);
        Edge.refused("15 no turn is left", x, -4, () -> x.run(1));
        Edge.refused("15 nor two hundred", x, -4, () -> x.run(200));
        Edge.refused("15 none at all can't be", x, -1, () -> x.run(0));
        Edge.refused("15 two hundred and one can't be", x, -1, () -> x.run(201));
    }

    // 15: "how many NUMBERS were HEARD in them": of rows, in these TURNS alone.
    private static void runCountsWhatIsHeard() {
        HopNet x = Scene.oneNet(1);
        Edge.done("15 empty rows", x, 0, () -> x.run(5));
        Scene.put(x, 0, 0, 8);
        Scene.put(x, 0, 1, 8);
        Edge.done("15 one of each row", x, 2, () -> x.run(1));
        Edge.done("15 all the others", x, 14, () -> x.run(200));
        x.cast(0, 5);
        Edge.done("15 casts are none", x, 0, () -> x.run(2));
        Check.due("15 though it was heard", x.link(0, 0, 12), 1);
    }

    private static void undoes(String what, HopNet x, int told, IntSupplier act) {
        List<Integer> before = View.of(x);
        int kept = x.count(9);
        Check.that(what + " stands", act.getAsInt() >= 0);
        Check.that(what + " changes something", !before.equals(View.of(x)));
        Edge.stands(what, x, told, x::undo);
        Check.due(what + " can be undone no more", x.count(9), Math.min(kept, 7));
        Check.that(what + " is undone", before.equals(View.of(x)));
    }

    // 16: what each act is told as, and that it "is undone".
    private static void undoOfEachAct() {
        HopNet x = Scene.twoNets();
        Scene.put(x, 0, 0, 5);
        x.noise(x.hop(0, -1, 0), 16);
        x.run(5);
        undoes("16 radio", x, 0, () -> x.radio(5));
        undoes("16 join", x, 2, () -> x.join(1, 2));
        undoes("16 leave", x, 3, () -> x.leave(0, 0));
        undoes("16 noise", x, 4, () -> x.noise(x.hop(0, -1, 11), 16));
        undoes("16 terms", x, 5, () -> x.terms(1, 2));
        undoes("16 seed", x, 5, () -> x.terms(0, 2));
        undoes("16 repeats", x, 5, () -> x.terms(2, 1));
        undoes("16 put", x, 6, () -> x.put(0, 1, 1, 7));
        undoes("16 reserve", x, 7, () -> x.reserve(1, 0, 6, 0, 1));
        undoes("16 map", x, 8, () -> x.map(1, 255, 1));
        undoes("16 adapt", x, 8, () -> x.adapt(0, 1, 1));
        undoes("16 run", x, 9, () -> x.run(1));
        undoes("16 sniff", x, 10, () -> x.sniff(0, 1, 64, 1));
        undoes("16 cast", x, 11, () -> x.cast(0, 1));
        undoes("16 weigh", x, 12, () -> x.weigh(0, 1, 4));
        HopNet y = new HopNet();
        y.radio(1);
        undoes("16 net", y, 1, () -> y.net(1, 0, 3));
    }

    /** Two NETS in the midst of all that can go on: NUMBERS, CASTS, FRAMES, a new MAP, NOISE. */
    private static HopNet busy() {
        HopNet x = Scene.twoNets();
        Scene.noise(x, 4);
        x.reserve(0, 1, 6, 2, 2);
        x.weigh(0, 0, 2);
        x.sniff(1, 0, 8, 3);
        return x;
    }

    private static void keepBusy(HopNet x, int i) {
        x.put(0, i % 2, i % 3 % 2, 100 + 3 * i);
        x.put(1, 0, i % 2, 200 - i);
        if (i % 4 == 0) {
            x.cast(i / 4 % 2, i);
        }
        if (i % 9 == 0) {
            x.map(i % 2, (0x7fffff >> i % 5) & ~i, 4);
        }
    }

    // 16: "is undone", to the last: what comes behind is as if it had not been.
    private static void undoOfARunToTheLast() {
        HopNet x = busy();
        for (int i = 0; i < 70; i++) {
            keepBusy(x, i);
            List<Integer> before = View.of(x);
            int heard = x.run(3);
            List<Integer> after = View.of(x);
            Check.due("16 a run", x.undo(), 9);
            Check.that("16 undone", before.equals(View.of(x)));
            Check.due("16 the same again", x.run(3), heard);
            Check.that("16 all the same", after.equals(View.of(x)));
        }
    }

    // 18: "Back to IMAGE k", to the last.
    private static void backToTheLast() {
        HopNet x = busy();
        for (int i = 0; i < 70; i++) {
            int k = i % 2;
            keepBusy(x, i);
            x.image(k);
            int heard = x.run(3);
            List<Integer> after = View.of(x);
            x.run(2);
            x.leave(1, 0);
            x.radio(i);
            x.back(k);
            Check.due("18 the same again", x.run(3), heard);
            Check.that("18 all the same", after.equals(View.of(x)));
        }
    }

    // 16, 17: rows are kept with the NUMBERS in them.
    private static void rowsAreKeptWithTheirNumbers() {
        HopNet x = Scene.oneNet(1);
        x.put(0, 0, 0, 11);
        x.put(0, 0, 1, 12);
        x.cast(0, 13);
        x.image(0);
        x.run(5);
        x.put(0, 0, 0, 21);
        x.put(0, 0, 1, 22);
        x.cast(0, 23);
        x.back(0);
        x.run(4);
        Edge.all("17 down", 12, x.hash(0, 0, 0));
        Edge.all("17 up", 13, x.hash(0, 0, 1));
        Edge.all("17 casts", 14, x.hash(0, 0, 2));
        x.put(0, 0, 0, 31);
        x.put(0, 0, 1, 32);
        x.cast(0, 33);
        x.run(5);
        x.cast(0, 43);
        x.undo();
        x.undo();
        x.run(5);
        Edge.all("16 down", 31 * 12 + 32, x.hash(0, 0, 0));
        Edge.all("16 up", 31 * 13 + 33, x.hash(0, 0, 1));
        Edge.all("16 casts", 31 * 14 + 34, x.hash(0, 0, 2));
    }

    // 17: "of all": ADDRESSES, OFFSETS and MASTERS too.
    private static void imageOfOthers() {
        HopNet x = new HopNet();
        x.image(0);
        for (int i = 0; i < 6; i++) {
            x.radio(1000 * i + 1);
        }
        x.net(0, 2, 11);
        x.net(1, 3, 12);
        x.join(0, 0);
        x.join(1, 1);
        x.image(1);
        List<Integer> first = View.of(x);
        x.back(0);
        for (int i = 0; i < 6; i++) {
            x.radio(777 * i + 5);
        }
        x.net(0, 5, 21);
        x.net(1, 4, 22);
        x.join(0, 1);
        x.join(1, 0);
        Check.that("17 another one", !first.equals(View.of(x)));
        x.back(1);
        Check.that("17 all is back", first.equals(View.of(x)));
        Check.due("17 by its address and offset", x.hop(0, -1, 0), ByHand.kernel(2001, 11));
    }

    // 16: "(8 are kept)": the ring of what is kept goes round.
    private static void undoKeepsEight() {
        HopNet x = new HopNet();
        for (int i = 0; i < 21; i++) {
            Check.due("16 how many", x.count(9), Math.min(i, 8));
            x.noise(3, i % 17);
        }
        for (int i = 7; i >= 0; i--) {
            Edge.stands("16 one of eight", x, 4, x::undo);
            Check.due("16 left", x.count(9), i);
        }
        Edge.refused("16 the ninth is not kept", x, -4, x::undo);
        Check.due("16 it stays", x.noise(3, 0), 12);
        Check.due("16 one can be undone", x.count(9), 1);
        Edge.stands("16 that one", x, 4, x::undo);
        Edge.refused("16 no more", x, -4, x::undo);
        Check.due("16 it stays again", x.noise(3, 0), 12);
    }

    // 16: "that was not REFUSED": refused calls, undo(), image() and questions are not kept.
    private static void undoPassesOverWhatIsNotKept() {
        HopNet x = new HopNet();
        x.noise(1, 5);
        x.terms(2, 4);
        x.radio(-1);
        x.run(0);
        x.image(0);
        x.image(1);
        x.kernel(1, 1);
        Edge.stands("16 the latest that stood", x, 5, x::undo);
        x.net(0, 9, 9);
        Edge.stands("16 the one ahead of it", x, 4, x::undo);
        Edge.refused("16 none", x, -4, x::undo);
        Check.due("16 both are back", x.noise(1, 0) + x.count(18), 2);
    }

    // 17: "IMAGE k (0, 1) is kept .. : TIME. -1."
    private static void imageNumbers() {
        HopNet x = Scene.twoNets();
        for (int k : new int[] {-1, 2, MIN, MAX}) {
            Edge.refused("17 image " + k, x, -1, () -> x.image(k));
        }
        x.run(7);
        int kept = x.count(9);
        Edge.stands("17 the first", x, 14, () -> x.image(0));
        Edge.stands("17 the second", x, 14, () -> x.image(1));
        Check.due("17 what can be undone stays", x.count(9), kept);
    }

    // 18: "-1; -4 (it was not kept)", the first of these.
    private static void backNumbers() {
        HopNet x = Scene.twoNets();
        for (int k : new int[] {-1, 2, MIN, MAX}) {
            Edge.refused("18 image " + k, x, -1, () -> x.back(k));
        }
        Edge.refused("18 the first was not kept", x, -4, () -> x.back(0));
        Edge.refused("18 the second was not kept", x, -4, () -> x.back(1));
        x.image(2);
        x.image(1);
        Edge.refused("18 the first was not kept yet", x, -4, () -> x.back(0));
        Edge.stands("18 the second was", x, 0, () -> x.back(1));
        x.image(0);
        Edge.stands("18 the first was too", x, 0, () -> x.back(0));
    }

    // 17, 18: "of all but what can be undone, what is told of REFUSED calls"; "nothing can be undone then".
    private static void backBringsAllBack() {
        HopNet x = new HopNet();
        x.image(0);
        HopNet y = Scene.twoNets();
        List<Integer> empty = View.of(x);
        for (int i = 0; i < 6; i++) {
            x.radio(i);
        }
        x.net(0, 5, 1);
        x.join(0, 4);
        x.put(0, 0, 0, 200);
        x.run(9);
        x.radio(-1);
        x.leave(7, 7);
        List<Integer> full = View.of(x);
        x.image(1);
        Edge.stands("18 back to nothing", x, 0, () -> x.back(0));
        Check.that("18 all is as it was", empty.equals(View.of(x)));
        Check.due("18 nothing can be undone", x.count(9), 0);
        Check.due("18 refusals stay told", x.count(5) * 10 + x.count(6), 11);
        Edge.refused("18 nor is it", x, -4, x::undo);
        Edge.refused("18 no radio is there", x, -2, () -> x.net(0, 0, 0));
        Edge.stands("18 on to the other", x, 18, () -> x.back(1));
        Check.that("18 all is as it was then", full.equals(View.of(x)));
        Edge.stands("18 the same again", x, 18, () -> x.back(1));
        y.image(0);
        y.noise(0, 9);
        y.undo();
        Check.due("16 an image is not undone", y.back(0), 0);
    }

    // 18: an IMAGE stays as it was kept, whatever is done behind back(), and another object has its own.
    private static void imagesStayAsKept() {
        HopNet x = Scene.twoNets();
        x.put(0, 0, 0, 9);
        x.image(0);
        List<Integer> kept = View.of(x);
        for (int i = 0; i < 3; i++) {
            x.run(20);
            x.leave(0, 0);
            x.back(0);
            Check.that("18 as it was kept", kept.equals(View.of(x)));
        }
        HopNet other = new HopNet();
        Edge.refused("18 another object has none", other, -4, () -> other.back(0));
    }

    public static void main(String[] args) {
        aNewObjectHasNothing();
        radioAddress();
        radioRoom();
        netNumbers();
        netOfNoRadio();
        netByWhatStands();
        netByTwoGrounds();
        joinOfNone();
        joinOfOneThatIsInIt();
        joinRoom();
        leaveOfNone();
        leaveMovesLinksAbove();
        leaveKeepsPolled();
        leaveOfPolledAtTheBottom();
        leaveOfPolledAtTheTop();
        noiseNumbers();
        termsNumbers();
        termsOfASeedThatWasDrawn();
        putNumbers();
        putRoom();
        reserveNumbers();
        reserveNoMore();
        reserveOfNone();
        reserveInPlaceOfWhatWas();
        sniffNumbers();
        sniffNoMore();
        sniffOfNone();
        weighNumbers();
        castNumbersAndRoom();
        mapNumbers();
        mapTurns();
        mapByWhatStands();
        adaptLeavesEight();
        adaptWouldLeaveSeven();
        adaptNumbers();
        adaptByWhatStands();
        adaptByNinetyNine();
        runNumbers();
        runToTheEnd();
        runCountsWhatIsHeard();
        undoOfEachAct();
        undoOfARunToTheLast();
        backToTheLast();
        rowsAreKeptWithTheirNumbers();
        imageOfOthers();
        undoKeepsEight();
        undoPassesOverWhatIsNotKept();
        imageNumbers();
        backNumbers();
        backBringsAllBack();
        imagesStayAsKept();
        Check.finish();
    }
}
