import java.util.List;

/** Promises 19 to 45 at their edges: a method for each sentence that names one, which stands above it. */
public final class EdgesOfQuestionsTest {
    private static final int NONE = HopNet.NONE;
    private static final int ALL = Scene.ALL;
    private static final int MIN = Edge.MIN;
    private static final int MAX = Edge.MAX;
    private static final int[] NO_NETS = {-1, 2, MIN, MAX};
    private static final int[] NO_LINKS = {-2, 2, 3, 4, MIN, MAX};

    // 19: "NONE (an ADDRESS, a CLOCK 0 .. 999,999 that can't be)."
    private static void kernelNumbers() {
        HopNet x = new HopNet();
        Edge.all("19 address", NONE, x.kernel(-1, 0), x.kernel(268435456, 0), x.kernel(MIN, 0), x.kernel(MAX, 0));
        Edge.all("19 clock", NONE, x.kernel(0, -1), x.kernel(0, 1000000), x.kernel(0, MIN), x.kernel(0, MAX));
        Edge.all("19 both", NONE, x.kernel(-1, -1), x.kernel(268435456, 1000000));
        Check.due("19 least ones", x.kernel(0, 0), 0);
        // z: 31 + 31 is 30, xor 31, xor the clock's bits 7 .. 11 (00100) is 00101; p: 511 xor the clock's
        // bits 5 .. 13 (17) is 494: exchanges 1, 2, 3, 5, 6, 7, 8 leave 01100; 12 + 31 + 13 is 56, so 10.
        Check.due("19 greatest ones", x.kernel(268435455, 999999), 10);
        Check.due("19 the same bit by bit", ByHand.kernel(268435455, 999999), 10);
    }

    // 19: "KERNEL", at every edge of the bits that it takes.
    private static void kernelBits() {
        HopNet x = new HopNet();
        int[] addresses = new int[60];
        for (int i = 0; i < 28; i++) {
            addresses[2 * i] = 1 << i;
            addresses[2 * i + 1] = (1 << i) - 1;
        }
        addresses[56] = 268435455;
        addresses[57] = 268435454;
        addresses[58] = 123456789;
        addresses[59] = 178956970;
        for (int address : addresses) {
            for (int i = 0; i < 20; i++) {
                for (int clock = (1 << i) - 1; clock <= (1 << i) + 1 && clock < 1000000; clock++) {
                    Check.due("19 bits", x.kernel(address, clock), ByHand.kernel(address, clock));
                }
            }
        }
    }

    // 20: "a slot 0 .. 199,999"; "NONE."
    private static void hopNumbers() {
        HopNet x = Scene.twoNets();
        for (int net : NO_NETS) {
            Edge.all("20 net " + net, NONE, x.hop(net, NONE, 0), x.hop(net, 0, 0));
        }
        for (int link : NO_LINKS) {
            Edge.all("20 link " + link, NONE, x.hop(0, link, 0));
        }
        Edge.all("20 link 1 of net 1", NONE, x.hop(1, 1, 0));
        for (int slot : new int[] {-1, 200000, MIN, MAX}) {
            Edge.all("20 slot " + slot, NONE, x.hop(0, NONE, slot), x.hop(0, 1, slot), x.hop(1, 0, slot));
        }
        for (int slot : new int[] {0, 199999}) {
            Edge.all("20 of net 0", ByHand.kernel(12345, slot), x.hop(0, NONE, slot), x.hop(0, 0, slot), x.hop(0, 1, slot));
            Edge.all("20 of net 1", ByHand.kernel(12345 + 21003, slot + 9), x.hop(1, NONE, slot), x.hop(1, 0, slot));
        }
        HopNet y = new HopNet();
        y.radio(268435455);
        y.net(1, 0, 65535);
        Edge.all("20 the greatest clock", ByHand.kernel(268435455, 265534), y.hop(1, NONE, 199999));
        Edge.all("20 net 0 is not there", NONE, y.hop(0, NONE, 0));
    }

    // 20: "by the MAP that it holds now": not by the NEXT one, not even at its INSTANT.
    private static void hopByTheMapNow() {
        HopNet x = Scene.oneNet(1);
        x.map(0, 255, 1);
        x.run(1);
        for (int slot = 2; slot < 60; slot++) {
            Edge.all("20 by the map now", ByHand.kernel(90000, slot), x.hop(0, NONE, slot), x.hop(0, 0, slot));
        }
        x.run(1);
        for (int slot = 0; slot < 60; slot++) {
            int hop = ByHand.kernel(90000, slot);
            Edge.all("20 by the next one then", hop < 8 ? hop : hop % 8, x.hop(0, NONE, slot), x.hop(0, 0, slot));
        }
    }

    // 21: "(what 0) .. (1), else 0; .. (2). NONE."
    private static void alikeNumbers() {
        HopNet x = Scene.twoNets();
        Edge.all("21 whats", 1, x.alike(0, 0, 0), x.alike(0, 1, 1), x.alike(1, 0, 2));
        for (int what : new int[] {-1, 3, MIN, MAX}) {
            Edge.all("21 what " + what, NONE, x.alike(0, 0, what));
        }
        for (int net : NO_NETS) {
            Edge.all("21 net " + net, NONE, x.alike(net, 0, 0));
        }
        for (int link : NO_LINKS) {
            Edge.all("21 link " + link, NONE, x.alike(0, link, 0), x.alike(0, NONE, 0));
        }
        Edge.all("21 net not there", NONE, new HopNet().alike(0, 0, 0));
    }

    // 21: "the like NEXT MAP and INSTANT, or none": each of the three alone makes them unlike.
    private static void alikeInAll() {
        HopNet x = Scene.oneNet(1);
        x.map(0, 255, 1);
        Edge.all("21 the net alone has a next one", 10, x.alike(0, 0, 0) + 10 * x.alike(0, 0, 1));
        x.run(1);
        Edge.all("21 both have it", 11, x.alike(0, 0, 0) + 10 * x.alike(0, 0, 1));
        x.run(1);
        Edge.all("21 both have none", 11, x.alike(0, 0, 0) + 10 * x.alike(0, 0, 1));
        Scene.noise(x, 16);
        x.map(0, 511, 1);
        x.run(2);
        Edge.all("21 another map", 0, x.alike(0, 0, 0), x.alike(0, 0, 1), x.alike(0, 0, 2));
    }

    // 22: "NEXT MAP (1; 0 without), INSTANT (2; NONE without), of a NET the MAP ahead (3). NONE."
    private static void mapOfNumbers() {
        HopNet x = Scene.twoNets();
        Edge.all("22 map", ALL, x.mapOf(0, NONE, 0), x.mapOf(0, 1, 0), x.mapOf(1, 0, 0));
        Edge.all("22 no next map", 0, x.mapOf(0, NONE, 1), x.mapOf(0, 1, 1));
        Edge.all("22 no instant", NONE, x.mapOf(0, NONE, 2), x.mapOf(0, 1, 2));
        Edge.all("22 the map ahead", ALL, x.mapOf(0, NONE, 3), x.mapOf(1, NONE, 3));
        Edge.all("22 of links there is none", NONE, x.mapOf(0, 0, 3), x.mapOf(1, 0, 3));
        for (int what : new int[] {-1, 4, MIN, MAX}) {
            Edge.all("22 what " + what, NONE, x.mapOf(0, NONE, what), x.mapOf(0, 0, what));
        }
        for (int net : NO_NETS) {
            Edge.all("22 net " + net, NONE, x.mapOf(net, NONE, 0), x.mapOf(net, 0, 1));
        }
        for (int link : NO_LINKS) {
            Edge.all("22 link " + link, NONE, x.mapOf(0, link, 0), x.mapOf(0, link, 1));
        }
        HopNet none = new HopNet();
        Edge.all("22 net not there", NONE, none.mapOf(0, NONE, 0), none.mapOf(1, NONE, 1), none.mapOf(1, NONE, 3));
    }

    /** Two NETS whose MASTERS hop alike. */
    private static HopNet twins(int offset) {
        HopNet x = new HopNet();
        x.radio(4711);
        x.radio(4711);
        x.net(0, 0, offset);
        x.net(1, 1, offset);
        return x;
    }

    // 23: "The first slot from TIME on, within 4,000 .. NONE."
    private static void meetsFromTimeOn() {
        HopNet x = twins(5);
        Check.due("23 at time itself", x.meets(), 0);
        x.run(3);
        Check.due("23 at time itself, later", x.meets(), 6);
        Scene.runTo(x, 99998);
        Check.due("23 at the last time", x.meets(), 99998);
        HopNet y = new HopNet();
        Check.due("23 no nets", y.meets(), NONE);
        y.radio(0);
        y.net(1, 0, 0);
        Check.due("23 net 1 alone", y.meets(), NONE);
    }

    // 23: "within 4,000": the slot 3,999 on is the last one that is asked.
    private static void meetsWithin4000() {
        HopNet x = new HopNet();
        x.radio(1572864);
        x.radio(9502720);
        x.net(0, 0, 0);
        x.net(1, 1, 0);
        x.map(0, 7357100, 1);
        x.map(1, 902210, 1);
        Scene.runTo(x, 12522);
        // They meet at 16,522, and in none of the 12,000 slots ahead of that.
        Check.due("23 4,000 on", x.meets(), NONE);
        x.run(1);
        Check.due("23 3,998 on", x.meets(), 16522);
        HopNet y = new HopNet();
        y.radio(1572864);
        y.radio(9502720);
        // OFFSETS 1 more: the same slots come one earlier, so that it is an odd one.
        y.net(0, 0, 1);
        y.net(1, 1, 1);
        y.map(0, 7357100, 1);
        y.map(1, 902210, 1);
        Scene.runTo(y, 12520);
        Check.due("23 4,001 on", y.meets(), NONE);
        y.run(1);
        Check.due("23 3,999 on", y.meets(), 16521);
    }

    // 24: "the next n (1 .. 512) slots .. NONE."
    private static void usedNumbers() {
        HopNet x = Scene.twoNets();
        x.run(1);
        for (int n : new int[] {1, 2, 511, 512}) {
            int[] due = new int[23];
            for (int slot = 2; slot < 2 + n; slot++) {
                due[ByHand.kernel(12345, slot)]++;
            }
            for (int channel = 0; channel < 23; channel++) {
                Edge.all("24 in " + n, due[channel], x.used(0, channel, n));
            }
        }
        for (int n : new int[] {-1, 0, 513, MIN, MAX}) {
            Edge.all("24 n " + n, NONE, x.used(0, 5, n));
        }
        for (int channel : new int[] {-1, 23, MIN, MAX}) {
            Edge.all("24 channel " + channel, NONE, x.used(0, channel, 5));
        }
        for (int net : NO_NETS) {
            Edge.all("24 net " + net, NONE, x.used(net, 5, 5));
        }
        Edge.all("24 net not there", NONE, new HopNet().used(0, 0, 1), new HopNet().used(1, 22, 512));
    }

    // 25: "by n (1 .. 99), as bits. NONE."
    private static void badNumbers() {
        HopNet x = Scene.twoNets();
        for (int n : new int[] {-1, 0, 100, MIN, MAX}) {
            Edge.all("25 n " + n, NONE, x.bad(0, n));
        }
        for (int net : NO_NETS) {
            Edge.all("25 net " + net, NONE, x.bad(net, 1));
        }
        Edge.all("25 net not there", NONE, new HopNet().bad(0, 1), new HopNet().bad(1, 99));
        Edge.all("25 none was sent", 0, x.bad(0, 1), x.bad(0, 99), x.bad(1, 1));
    }

    // 25: "CHANNELS of a NET's MAP with SENT n or more and ANSWERED below half of them."
    private static void badByHalf() {
        HopNet x = Scene.oneNet(1);
        int channel = x.hop(0, NONE, 0);
        int answered = 0;
        for (int sent = 1; sent <= 5; sent++) {
            while (x.hop(0, NONE, x.count(0)) != channel || x.hop(0, NONE, x.count(0) + 1) == channel) {
                x.run(1);
            }
            // Heard in the second and third TURN alone: 0 of 1, 1 of 2, 2 of 3, 2 of 4, 2 of 5.
            boolean isHeard = sent == 2 || sent == 3;
            x.noise(channel, isHeard ? 0 : 16);
            x.run(1);
            x.noise(channel, 0);
            answered += isHeard ? 1 : 0;
            Edge.all("26 sent", sent * 10 + answered, x.sent(0, channel, 0) * 10 + x.sent(0, channel, 1));
            int due = 2 * answered < sent ? 1 << channel : 0;
            Edge.all("25 " + answered + " of " + sent, due, x.bad(0, 1), x.bad(0, sent));
            Edge.all("25 sent less often", 0, x.bad(0, sent + 1));
        }
        x.map(0, ALL & ~(1 << channel), 1);
        x.run(1);
        Edge.all("25 in the map yet", 1 << channel, x.bad(0, 5));
        x.run(1);
        Edge.all("25 not in the map", 0, x.bad(0, 5));
    }

    // 25, 26: CHANNELS 0 and 22 have their bits and tallies too.
    private static void badOfTheOuterChannels() {
        HopNet x = Scene.oneNet(1);
        Scene.noise(x, 16);
        x.run(200);
        int bad = x.bad(0, 1);
        int sum = 0;
        for (int channel = 0; channel < 23; channel++) {
            Edge.all("26 none was answered", 0, x.sent(0, channel, 1));
            Edge.all("25 its bit", x.sent(0, channel, 0) > 0 ? 1 : 0, bad >> channel & 1);
            sum += x.sent(0, channel, 0);
        }
        Edge.all("26 all of them", 200, sum);
        Edge.all("25 no bits above", 0, bad >> 23);
        Edge.all("25 the outer channels are among them", 1, bad & 1, bad >> 22);
    }

    // 26: "SENT (what 0), ANSWERED (1). NONE."
    private static void sentNumbers() {
        HopNet x = Scene.twoNets();
        for (int what : new int[] {-1, 2, MIN, MAX}) {
            Edge.all("26 what " + what, NONE, x.sent(0, 0, what));
        }
        for (int channel : new int[] {-1, 23, MIN, MAX}) {
            Edge.all("26 channel " + channel, NONE, x.sent(0, channel, 0), x.sent(0, channel, 1));
        }
        for (int net : NO_NETS) {
            Edge.all("26 net " + net, NONE, x.sent(net, 0, 0));
        }
        Edge.all("26 at first", 0, x.sent(0, 0, 0), x.sent(0, 22, 1), x.sent(1, 22, 0), x.sent(1, 0, 1));
        Edge.all("26 net not there", NONE, new HopNet().sent(0, 0, 0));
    }

    // 27: "what 0 .. 16. NONE for others."
    private static void linkNumbers() {
        HopNet x = Scene.twoNets();
        int[] due = {2, 0, 0, 0, 0, 0, 0, 1, 0, 1, 0, 0, 0, 1, 0, 0, 1};
        for (int what = 0; what <= 16; what++) {
            Edge.all("27 at first " + what, due[what], x.link(0, 1, what));
        }
        for (int what : new int[] {-1, 17, MIN, MAX}) {
            Edge.all("27 what " + what, NONE, x.link(0, 1, what));
        }
        for (int net : NO_NETS) {
            Edge.all("27 net " + net, NONE, x.link(net, 0, 0));
        }
        for (int link : NO_LINKS) {
            Edge.all("27 link " + link, NONE, x.link(0, link, 0), x.link(0, NONE, 0), x.link(1, 1, 0));
        }
        Edge.all("27 net not there", NONE, new HopNet().link(0, 0, 0));
    }

    // 28: "HASH .. DOWN (which 0), UP (1), of CASTS (2). 0 for others."
    private static void hashNumbers() {
        HopNet x = Scene.oneNet(1);
        Edge.all("28 at first", 0, x.hash(0, 0, 0), x.hash(0, 0, 1), x.hash(0, 0, 2));
        x.put(0, 0, 0, 0);
        x.put(0, 0, 1, 255);
        x.cast(0, 6);
        x.run(3);
        Edge.all("28 of the least number", 1, x.hash(0, 0, 0));
        Edge.all("28 of the greatest number", 256, x.hash(0, 0, 1));
        Edge.all("28 of a cast", 7, x.hash(0, 0, 2));
        Edge.all("28 which", 0, x.hash(0, 0, -1), x.hash(0, 0, 3), x.hash(0, 0, MIN), x.hash(0, 0, MAX));
        Edge.all("28 link", 0, x.hash(0, -1, 0), x.hash(0, 1, 0), x.hash(0, MIN, 0), x.hash(0, MAX, 0));
        Edge.all("28 net", 0, x.hash(-1, 0, 0), x.hash(1, 0, 0), x.hash(2, 0, 0), x.hash(MIN, 0, 0));
    }

    // 28: "an int": the HASH goes round.
    private static void hashGoesRound() {
        HopNet x = Scene.oneNet(1);
        long exact = 0;
        int hash = 0;
        for (int i = 0; i < 12; i++) {
            x.put(0, 0, 0, 255 - i);
            x.put(0, 0, 1, 255 - i);
            x.run(2);
            x.cast(0, 255 - i);
            x.run(2);
            exact = 31 * exact + 256 - i;
            hash = 31 * hash + 256 - i;
            Edge.all("28 goes round", hash, x.hash(0, 0, 0), x.hash(0, 0, 1), x.hash(0, 0, 2));
        }
        Check.that("28 it went round", exact != hash);
    }

    // 29: "PERIOD (what 0) .. (5; 0: none is open). NONE for others."
    private static void reservedNumbers() {
        HopNet x = Scene.twoNets();
        for (int what = -1; what <= 6; what++) {
            Edge.all("29 not reserved", NONE, x.reserved(0, 1, what));
        }
        x.reserve(0, 1, 40, 38, 3);
        int[] due = {40, 38, 3, 0, 0, 0};
        for (int what = 0; what < 6; what++) {
            Edge.all("29 told " + what, due[what], x.reserved(0, 1, what));
        }
        for (int what : new int[] {-1, 6, MIN, MAX}) {
            Edge.all("29 what " + what, NONE, x.reserved(0, 1, what));
        }
        Edge.all("29 another link is not", NONE, x.reserved(0, 0, 0), x.reserved(1, 0, 0));
        for (int net : NO_NETS) {
            Edge.all("29 net " + net, NONE, x.reserved(net, 1, 0));
        }
        for (int link : NO_LINKS) {
            Edge.all("29 link " + link, NONE, x.reserved(0, link, 0), x.reserved(0, NONE, 0));
        }
        Edge.all("29 net not there", NONE, new HopNet().reserved(0, 0, 0));
    }

    // 29: "TURNS of the open FRAME's WINDOW that are left".
    private static void reservedTurnsLeft() {
        HopNet x = Scene.oneNet(1);
        Scene.noise(x, 16);
        for (int window = 1; window <= 3; window++) {
            x.reserve(0, 0, 8, 0, window);
            Scene.runTo(x, (x.count(0) + 7) / 8 * 8);
            for (int turn = 1; turn <= 4; turn++) {
                x.run(1);
                Edge.all("29 left of " + window, Math.max(0, window - turn), x.reserved(0, 0, 5));
                Edge.all("29 missed of " + window, turn >= window ? 1 : 0, x.reserved(0, 0, 4));
            }
        }
        Scene.noise(x, 0);
        x.reserve(0, 0, 8, 0, 3);
        Scene.runTo(x, (x.count(0) + 7) / 8 * 8 + 2);
        Edge.all("29 got, none is open", 0, x.reserved(0, 0, 5));
        Edge.all("29 got", 1, x.reserved(0, 0, 3));
    }

    // 30: "in a slot (0 .. 199,999), else 0. NONE for others."
    private static void isThereNumbers() {
        HopNet x = Scene.twoNets();
        for (int slot : new int[] {-1, 200000, MIN, MAX}) {
            Edge.all("30 slot " + slot, NONE, x.isThere(0, 0, slot), x.isThere(1, 1, slot));
        }
        for (int radio : new int[] {-1, 4, 5, 6, MIN, MAX}) {
            Edge.all("30 radio " + radio, NONE, x.isThere(radio, 0, 0));
        }
        for (int net : NO_NETS) {
            Edge.all("30 net " + net, NONE, x.isThere(0, net, 0));
        }
        Edge.all("30 first slot", 1, x.isThere(0, 0, 0), x.isThere(1, 0, 0), x.isThere(3, 1, 0));
        Edge.all("30 last slot", 1, x.isThere(0, 0, 199999), x.isThere(1, 1, 199999), x.isThere(3, 1, 199999));
        Edge.all("30 not in it", 0, x.isThere(0, 1, 0), x.isThere(2, 1, 199999), x.isThere(3, 0, 0));
        HopNet y = new HopNet();
        y.radio(1);
        Edge.all("30 nets without a master", 0, y.isThere(0, 0, 0), y.isThere(0, 1, 199999));
    }

    // 31: "the next n (1 .. 64) TURNS .. (what 0) .. (1). NONE for others."
    private static void oddsNumbers() {
        HopNet x = Scene.twoNets();
        for (int n : new int[] {-1, 0, 65, MIN, MAX}) {
            Edge.all("31 n " + n, NONE, x.odds(0, 0, n, 0), x.odds(0, 0, n, 1));
        }
        for (int what : new int[] {-1, 2, MIN, MAX}) {
            Edge.all("31 what " + what, NONE, x.odds(0, 0, 1, what));
        }
        for (int net : NO_NETS) {
            Edge.all("31 net " + net, NONE, x.odds(net, 0, 1, 0));
        }
        for (int link : NO_LINKS) {
            Edge.all("31 link " + link, NONE, x.odds(0, link, 1, 0), x.odds(0, NONE, 1, 0));
        }
        Edge.all("31 net not there", NONE, new HopNet().odds(0, 0, 1, 0));
    }

    // 31: "in lowest terms", from NOISE 0 to NOISE 16.
    private static void oddsOfLeastAndMostNoise() {
        HopNet x = Scene.twoNets();
        int[] noises = {0, 1, 8, 12, 15, 16};
        int[] upper = {1, 225, 1, 1, 1, 0};
        int[] lower = {1, 256, 4, 16, 256, 1};
        for (int i = 0; i < noises.length; i++) {
            Scene.noise(x, noises[i]);
            for (int n : new int[] {1, 3, 63, 64}) {
                Edge.all("31 upper of " + noises[i], upper[i], x.odds(0, 1, n, 0));
                Edge.all("31 lower of " + noises[i], lower[i], x.odds(0, 1, n, 1));
            }
        }
    }

    // 31: "the next n": the first TURN and the last one count, the one behind does not.
    private static void oddsOfTheNextTurns() {
        HopNet x = Scene.oneNet(1);
        x.run(2);
        for (int n : new int[] {1, 2, 63, 64}) {
            long sum = 0;
            for (int i = 0; i < n; i++) {
                int one = 16 - ByHand.kernel(90000, 4 + 2 * i) % 17;
                int two = 16 - ByHand.kernel(90000, 5 + 2 * i) % 17;
                sum += one * two;
            }
            for (int channel = 0; channel < 23; channel++) {
                x.noise(channel, channel % 17);
            }
            Check.due("31 the mean of " + n, x.odds(0, 0, n, 0) * 256L * n, x.odds(0, 0, n, 1) * sum);
        }
    }

    // 31: "0 where the MEMBER's CHANNEL is another one than the MASTER's in either slot".
    private static void oddsInEitherSlot() {
        HopNet x = Scene.oneNet(1);
        Scene.noise(x, 16);
        x.map(0, 0x7ffff, 1);
        x.run(2);
        Scene.noise(x, 0);
        boolean[] seen = new boolean[4];
        for (int i = 0; i < 60; i++) {
            int now = x.count(0);
            boolean first = x.hop(0, NONE, now) == x.hop(0, 0, now);
            boolean second = x.hop(0, NONE, now + 1) == x.hop(0, 0, now + 1);
            seen[(first ? 1 : 0) + (second ? 2 : 0)] = true;
            Edge.all("31 in step", first && second ? 1 : 0, x.odds(0, 0, 1, 0));
            Edge.all("31 in step", 1, x.odds(0, 0, 1, 1));
            Scene.noise(x, 16);
            x.run(1);
            Scene.noise(x, 0);
        }
        Check.that("31 out of step in both, in either, in none", seen[0] && seen[1] && seen[2] && seen[3]);
    }

    // 32: "the next n (1 .. 512) slots .. NONE."
    private static void clashesNumbers() {
        HopNet x = twins(65535);
        for (int n : new int[] {1, 2, 511, 512}) {
            Edge.all("32 in each", n, x.clashes(n));
        }
        for (int n : new int[] {-1, 0, 513, MIN, MAX}) {
            Edge.all("32 n " + n, NONE, x.clashes(n));
        }
        x.undo();
        Edge.all("32 net 1 is not there", NONE, x.clashes(1));
        x.undo();
        Edge.all("32 no net is there", NONE, x.clashes(1));
        x.net(1, 0, 0);
        Edge.all("32 net 0 is not there", NONE, x.clashes(1));
    }

    // 32, 33: "the next n slots", "by MAPS now": from TIME on, each NET by its own MAP.
    private static void clashesAndBestOffsetByMaps() {
        HopNet x = Scene.twoNets();
        x.map(0, 0xff0, 1);
        x.map(1, 0x3fff, 1);
        x.run(2);
        x.map(0, 255, 1);
        x.map(1, 255, 1);
        x.run(1);
        Check.due("32 the next maps are not asked", x.mapOf(0, NONE, 1), 255);
        for (int n : new int[] {1, 2, 7, 100, 511, 512}) {
            int[] first = ByHand.channels(12345, 6, n, 0xff0);
            int[] second = ByHand.channels(12345 + 21003, 6, n + 64, 0x3fff);
            Edge.all("32 in " + n, ByHand.alike(first, second, 9), x.clashes(n));
            Edge.all("33 in " + n, ByHand.bestMove(first, second, 64), x.bestOffset(n));
        }
    }

    // 33: "The OFFSET 0 .. 63 of NET 1 .. NONE."
    private static void bestOffsetNumbers() {
        HopNet x = twins(0);
        for (int n : new int[] {-1, 0, 513, MIN, MAX}) {
            Edge.all("33 n " + n, NONE, x.bestOffset(n));
        }
        for (int n : new int[] {1, 2, 511, 512}) {
            int[] first = ByHand.channels(4711, 0, n, ALL);
            int[] second = ByHand.channels(4711, 0, n + 64, ALL);
            Edge.all("33 by n " + n, ByHand.bestMove(first, second, 64), x.bestOffset(n));
        }
        HopNet y = new HopNet();
        y.radio(1);
        y.net(0, 0, 0);
        Edge.all("33 net 1 is not there", NONE, y.bestOffset(1));
        y.undo();
        y.net(1, 0, 0);
        Edge.all("33 net 0 is not there", NONE, y.bestOffset(1));
        HopNet z = new HopNet();
        z.radio(0);
        z.radio(1 << 19);
        z.net(0, 0, 0);
        z.net(1, 1, 99);
        Edge.all("33 by none in the first slot: the first", 0, z.bestOffset(1));
    }

    // 33: "0 .. 63": 63 is the last one that is tried, 64 is not.
    private static void bestOffsetIsBelow64() {
        int[] first = ByHand.channels(12345, 0, 512, ALL);
        boolean last = false;
        boolean beyond = false;
        for (int address = 0; address < 6000 && !(last && beyond); address++) {
            int[] second = ByHand.channels(address, 0, 577, ALL);
            int best = ByHand.bestMove(first, second, 64);
            boolean wouldBe64 = ByHand.bestMove(first, second, 65) == 64;
            if (best == 63 || wouldBe64) {
                HopNet x = new HopNet();
                x.radio(12345);
                x.radio(address);
                x.net(0, 0, 0);
                x.net(1, 1, 64);
                Edge.all("33 of 64", best, x.bestOffset(512));
                last |= best == 63;
                beyond |= wouldBe64;
            }
        }
        Check.that("33 63 is best, and 64 would be", last && beyond);
    }

    // 33: "these": the slot behind the n-th is not asked.
    private static void bestOffsetOfTheNextSlots() {
        int address = 0;
        while (ByHand.kernel(12345, 0) == ByHand.kernel(address, 0)
                || ByHand.kernel(12345, 1) != ByHand.kernel(address, 1)) {
            address++;
        }
        HopNet x = new HopNet();
        x.radio(12345);
        x.radio(address);
        x.net(0, 0, 0);
        x.net(1, 1, 40);
        Check.that("33 by the first two slots it is another", x.bestOffset(2) != 0);
        Check.due("33 by the first slot alone it is 0", x.bestOffset(1), 0);
    }

    // 34: "(0: they are). NONE (not by then; others)."
    private static void drainNumbers() {
        HopNet x = Scene.twoNets();
        Edge.all("34 empty", 0, x.drain(0, 0), x.drain(0, 1), x.drain(1, 0));
        for (int net : NO_NETS) {
            Edge.all("34 net " + net, NONE, x.drain(net, 0));
        }
        for (int link : NO_LINKS) {
            Edge.all("34 link " + link, NONE, x.drain(0, link), x.drain(0, NONE));
        }
        Edge.all("34 net not there", NONE, new HopNet().drain(0, 0));
        HopNet y = Scene.oneNet(1);
        y.put(0, 0, 0, 1);
        Edge.all("34 down alone, at once", 1, y.drain(0, 0));
        y.undo();
        y.put(0, 0, 1, 1);
        Edge.all("34 up alone, with the next packet", 2, y.drain(0, 0));
        Scene.put(y, 0, 0, 8);
        Edge.all("34 a full row down", 8, y.drain(0, 0));
        Scene.put(y, 0, 1, 7);
        Edge.all("34 both rows full", 9, y.drain(0, 0));
        Edge.all("34 on paper", 8, y.link(0, 0, 1), y.link(0, 0, 2));
    }

    // 34: "400 at most": the 400th TURN is asked, the next one is not.
    private static void drainIn400() {
        HopNet x = Scene.twoNets();
        // RADIO 1 is there and awake when TIME is a multiple of 32 and of 62: at 992.
        x.terms(1, 2);
        x.sniff(0, 0, 62, 1);
        x.run(1);
        x.put(0, 0, 0, 5);
        Scene.runTo(x, 192);
        Edge.all("34 in 401", NONE, x.drain(0, 0));
        x.run(1);
        Edge.all("34 in 400", 400, x.drain(0, 0));
        x.run(1);
        Edge.all("34 in 399", 399, x.drain(0, 0));
    }

    // 34: "up to TIME 99,998".
    private static void drainToTheEnd() {
        HopNet x = Scene.oneNet(1);
        Scene.runTo(x, 99994);
        x.put(0, 0, 0, 1);
        x.put(0, 0, 0, 1);
        Edge.all("34 the last turn is enough", 2, x.drain(0, 0));
        x.put(0, 0, 0, 1);
        Edge.all("34 one turn more is too many", NONE, x.drain(0, 0));
        x.run(2);
        Edge.all("34 none is left", NONE, x.drain(0, 0));
        x.undo();
        x.undo();
        x.run(2);
        Edge.all("34 empty at the end", 0, x.drain(0, 0));
    }

    // 35: "n (1 .. 200) TURNS with a SHARE (even, 0 .. 32) .. NONE for others".
    private static void wouldNumbers() {
        HopNet x = Scene.twoNets();
        for (int share : new int[] {-2, -1, 1, 31, 33, 34, MIN, MAX}) {
            Edge.all("35 share " + share, NONE, x.would(share, 1, 0), x.would(share, 1, 1), x.would(share, 1, 2));
        }
        for (int n : new int[] {-1, 0, 201, MIN, MAX}) {
            Edge.all("35 n " + n, NONE, x.would(16, n, 0), x.would(16, n, 1), x.would(16, n, 2));
        }
        for (int what : new int[] {-1, 3, MIN, MAX}) {
            Edge.all("35 what " + what, NONE, x.would(16, 1, what));
        }
        x.put(0, 0, 0, 1);
        Edge.all("35 least share, least n", 0, x.would(0, 1, 0));
        Edge.all("35 greatest share, least n", 1, x.would(32, 1, 0));
        Edge.all("35 least share, greatest n", 0, x.would(0, 200, 0));
        Edge.all("35 greatest share, greatest n", 1, x.would(32, 200, 0));
        Edge.all("35 without nets", 0, new HopNet().would(16, 200, 0), new HopNet().would(0, 1, 1),
                new HopNet().would(32, 1, 2));
    }

    // 35: "(TIME would be above 99,998, too)".
    private static void wouldToTheEnd() {
        HopNet x = Scene.twoNets();
        Scene.runTo(x, 99598);
        Edge.all("35 just enough", 0, x.would(16, 200, 0), x.would(16, 200, 1), x.would(16, 200, 2));
        x.run(1);
        Edge.all("35 one too many", NONE, x.would(16, 200, 0), x.would(16, 200, 1), x.would(16, 200, 2));
        Edge.all("35 one less", 0, x.would(16, 199, 0));
        Scene.runTo(x, 99998);
        Edge.all("35 none is left", NONE, x.would(16, 1, 0));
    }

    // 35: "FRAMES that were MISSED (1), LINKS that hold another MAP than their NET (2)", of both NETS.
    private static void wouldMissAndFallOutOfStep() {
        HopNet x = Scene.twoNets();
        x.reserve(0, 1, 6, 4, 2);
        x.reserve(1, 0, 6, 4, 2);
        Scene.noise(x, 16);
        Edge.all("35 a window is open yet", 0, x.would(16, 3, 1));
        Edge.all("35 both are over", 2, x.would(16, 4, 1));
        Edge.all("35 and the next", 4, x.would(16, 7, 1));
        x.map(0, 255, 1);
        x.map(1, 255, 2);
        Edge.all("35 no map has changed", 0, x.would(16, 1, 2));
        Edge.all("35 net 0's has", 2, x.would(16, 2, 2));
        Edge.all("35 both have", 3, x.would(16, 3, 2));
        x.run(4);
        Edge.all("35 those that were missed are not told", 0, x.would(16, 1, 1));
        Edge.all("35 those out of step are", 3, x.would(16, 1, 2));
    }

    // 36: "within 200 slots .. NONE."
    private static void readyNumbers() {
        HopNet x = Scene.twoNets();
        for (int net : NO_NETS) {
            Edge.all("36 net " + net, NONE, x.ready(net, 0));
        }
        for (int link : NO_LINKS) {
            Edge.all("36 link " + link, NONE, x.ready(0, link), x.ready(0, NONE));
        }
        Edge.all("36 net not there", NONE, new HopNet().ready(0, 0));
        Edge.all("36 now", 0, x.ready(0, 0), x.ready(0, 1));
        Edge.all("36 when it comes over", 16, x.ready(1, 0));
        x.terms(1, 2);
        x.sniff(0, 0, 62, 1);
        Edge.all("36 at time itself", 0, x.ready(0, 0));
        Scene.runTo(x, 792);
        Edge.all("36 200 slots on", NONE, x.ready(0, 0));
        x.run(1);
        Edge.all("36 198 slots on", 992, x.ready(0, 0));
        Scene.runTo(x, 992);
        Edge.all("36 at time itself again", 992, x.ready(0, 0));
        x.run(1);
        Edge.all("36 that is over", NONE, x.ready(0, 0));
    }

    // 37: "the next n (1 .. 200) TURNS two LINKS of a NET (one and the same, too) .. NONE."
    private static void bothReadyNumbers() {
        HopNet x = Scene.twoNets();
        for (int n : new int[] {-1, 0, 201, MIN, MAX}) {
            Edge.all("37 n " + n, NONE, x.bothReady(0, 0, 1, n));
        }
        for (int net : NO_NETS) {
            Edge.all("37 net " + net, NONE, x.bothReady(net, 0, 0, 1));
        }
        for (int link : NO_LINKS) {
            Edge.all("37 link " + link, NONE, x.bothReady(0, link, 0, 1), x.bothReady(0, 0, link, 1));
            Edge.all("37 link NONE", NONE, x.bothReady(0, NONE, 0, 1), x.bothReady(0, 0, NONE, 1));
        }
        Edge.all("37 net not there", NONE, new HopNet().bothReady(0, 0, 0, 1));
        Edge.all("37 one and the same", 200, x.bothReady(0, 1, 1, 200));
        Edge.all("37 one turn", 1, x.bothReady(0, 0, 1, 1), x.bothReady(0, 1, 0, 1));
        Edge.all("37 eight of nine", 8, x.bothReady(0, 0, 1, 8), x.bothReady(0, 0, 1, 9));
        Edge.all("37 none of one", 0, x.bothReady(1, 0, 0, 1));
        Edge.all("37 none, then one", 1, x.bothReady(1, 0, 0, 9));
        Edge.all("37 most turns", 104, x.bothReady(0, 0, 1, 200));
    }

    // 38: "the n-th (1 .. 200) TURN from now; .. NONE (none; others; TIME would be above 99,998)."
    private static void aheadNumbers() {
        HopNet x = Scene.oneNet(3);
        for (int n : new int[] {-1, 0, 201, MIN, MAX}) {
            Edge.all("38 n " + n, NONE, x.ahead(0, n));
        }
        for (int net : new int[] {-1, 1, 2, MIN, MAX}) {
            Edge.all("38 net " + net, NONE, x.ahead(net, 1));
        }
        Edge.all("38 the first turn", 0, x.ahead(0, 1));
        Edge.all("38 no turn", NONE, x.ahead(0, 0));
        Edge.all("38 the 200th turn", 1, x.ahead(0, 200));
        Edge.all("38 on paper", NONE, x.ofNet(0, 3));
        for (int i = 0; i < 4; i++) {
            x.cast(0, i);
        }
        Edge.all("38 casts", -2, x.ahead(0, 1), x.ahead(0, 8));
        Edge.all("38 then a link", 0, x.ahead(0, 9));
        Edge.all("38 none", NONE, Scene.oneNet(0).ahead(0, 1));
        HopNet y = Scene.oneNet(3);
        Scene.runTo(y, 99598);
        Edge.all("38 the last turn", (49799 + 199) % 3, y.ahead(0, 200));
        y.run(1);
        Edge.all("38 one too many", NONE, y.ahead(0, 200));
        Edge.all("38 the last turn again", (49799 + 199) % 3, y.ahead(0, 199));
        Scene.runTo(y, 99998);
        Edge.all("38 none is left", NONE, y.ahead(0, 1));
    }

    // 39: "two unlike RESERVED LINKS of a NET .. NONE."
    private static void togetherNumbers() {
        HopNet x = Scene.oneNet(3);
        x.reserve(0, 0, 6, 0, 1);
        x.reserve(0, 2, 6, 0, 1);
        Edge.all("39 at time itself", 0, x.together(0, 0, 2), x.together(0, 2, 0));
        Edge.all("39 like ones", NONE, x.together(0, 0, 0), x.together(0, 2, 2));
        Edge.all("39 one that is not reserved", NONE, x.together(0, 0, 1), x.together(0, 1, 2), x.together(0, 1, 1));
        for (int net : new int[] {-1, 1, 2, MIN, MAX}) {
            Edge.all("39 net " + net, NONE, x.together(net, 0, 2));
        }
        for (int link : new int[] {-1, 3, 4, MIN, MAX}) {
            Edge.all("39 link " + link, NONE, x.together(0, link, 2), x.together(0, 0, link));
        }
        x.reserve(0, 2, 6, 2, 1);
        Edge.all("39 never", NONE, x.together(0, 0, 2));
    }

    // 39: "The first TIME from now on, within 2,000 slots": as far on as two PERIODS can be.
    private static void togetherFarOn() {
        HopNet x = Scene.oneNet(2);
        x.reserve(0, 0, 40, 38, 1);
        x.reserve(0, 1, 38, 36, 1);
        Edge.all("39 far on", 758, x.together(0, 0, 1));
        Scene.runTo(x, 758);
        Edge.all("39 at time itself", 758, x.together(0, 0, 1));
        x.run(1);
        Edge.all("39 far on again", 1518, x.together(0, 0, 1));
    }

    // 40: "The i-th CHANNEL (0 on) of those with SENT above 0 .. NONE."
    private static void rankedNumbers() {
        HopNet x = Scene.twoNets();
        Edge.all("40 none was sent", NONE, x.ranked(0, 0), x.ranked(1, 0));
        x.run(1);
        Edge.all("40 one alone", ByHand.kernel(12345, 0), x.ranked(0, 0));
        Edge.all("40 no second", NONE, x.ranked(0, 1));
        HopNet once = Scene.oneNet(1);
        once.run(2);
        int one = ByHand.kernel(90000, 0);
        int two = ByHand.kernel(90000, 2);
        Edge.all("40 sent once: the lesser", Math.min(one, two), once.ranked(0, 0));
        Edge.all("40 sent once: the greater", Math.max(one, two), once.ranked(0, 1));
        Edge.all("40 no third", NONE, once.ranked(0, 2));
        HopNet y = Scene.oneNet(1);
        y.run(200);
        for (int i = 0; i < 23; i++) {
            Edge.all("40 like ones by rising numbers", i, y.ranked(0, i));
        }
        Edge.all("40 i", NONE, y.ranked(0, -1), y.ranked(0, 23), y.ranked(0, MIN), y.ranked(0, MAX));
        for (int net : new int[] {-1, 1, 2, MIN, MAX}) {
            Edge.all("40 net " + net, NONE, y.ranked(net, 0));
        }
        Scene.noise(y, 16);
        int channel = y.hop(0, NONE, 400);
        y.run(1);
        Edge.all("40 the one that failed once is last", channel, y.ranked(0, 22));
        Edge.all("40 the others are ahead", channel == 0 ? 1 : 0, y.ranked(0, 0));
    }

    // 40: "by falling ANSWERED by SENT": none at all is last, of like ones the lesser is ahead.
    private static void rankedOfNone() {
        HopNet x = Scene.oneNet(1);
        Scene.noise(x, 16);
        x.run(200);
        for (int i = 0; i < 23; i++) {
            Edge.all("40 none was answered: by rising numbers", i, x.ranked(0, i));
        }
    }

    // 41: "is n (0 .. 9,999) TURNS or more ago, as bits. NONE."
    private static void quietNumbers() {
        HopNet x = Scene.oneNet(4);
        for (int n : new int[] {-1, 10000, MIN, MAX}) {
            Edge.all("41 n " + n, NONE, x.quiet(0, n));
        }
        for (int net : new int[] {-1, 1, 2, MIN, MAX}) {
            Edge.all("41 net " + net, NONE, x.quiet(net, 0));
        }
        Edge.all("41 least n: all", 15, x.quiet(0, 0));
        Edge.all("41 they came now", 0, x.quiet(0, 1), x.quiet(0, 9999));
        Edge.all("41 no links", 0, Scene.oneNet(0).quiet(0, 0));
        Scene.noise(x, 16);
        Scene.runTo(x, 19996);
        Edge.all("41 9,998 turns", 15, x.quiet(0, 9998));
        Edge.all("41 not 9,999 yet", 0, x.quiet(0, 9999));
        x.run(1);
        Edge.all("41 9,999 turns", 15, x.quiet(0, 9999));
        Scene.noise(x, 0);
        x.run(1);
        int heard = 1 << x.ofNet(0, 3);
        Edge.all("41 all but one", 15 & ~heard, x.quiet(0, 9999), x.quiet(0, 2));
        Edge.all("41 it was heard one turn ago", 15, x.quiet(0, 1));
    }

    // 42: "in n (1 .. 32) TURNS .. NONE (n, TIME)."
    private static void bestShareNumbers() {
        HopNet x = Scene.twoNets();
        for (int n : new int[] {-1, 0, 33, MIN, MAX}) {
            Edge.all("42 n " + n, NONE, x.bestShare(n));
        }
        Edge.all("42 nothing is heard by any: the least", 0, x.bestShare(1), x.bestShare(32));
        Edge.all("42 without nets", 0, new HopNet().bestShare(1), new HopNet().bestShare(32));
        Scene.runTo(x, 99934);
        Edge.all("42 just enough", 0, x.bestShare(32));
        x.run(1);
        Edge.all("42 one too many", NONE, x.bestShare(32));
        Edge.all("42 one less", 0, x.bestShare(31));
        Scene.runTo(x, 99998);
        Edge.all("42 none is left", NONE, x.bestShare(1));
    }

    // 42: "The SHARE by which most NUMBERS would be HEARD .., the least of those": from 0 to 32.
    private static void bestShareFromLeastToGreatest() {
        HopNet x = Scene.twoNets();
        // RADIO 1's LINK in NET 0 is awake at 30: it hears there by SHARE 32 alone.
        x.sniff(0, 0, 30, 1);
        x.run(1);
        x.put(0, 0, 0, 1);
        Edge.all("42 the greatest", 32, x.bestShare(15));
        Edge.all("42 one turn less: none is heard, the least", 0, x.bestShare(14));
        // At 60 it hears by SHARE 30 too.
        Edge.all("42 the least of those that are as good", 30, x.bestShare(30));
        x.undo();
        x.put(1, 0, 0, 1);
        Edge.all("42 the other net's: the least", 0, x.bestShare(15));
    }

    // 43: "MASTER (what 0) .. (6). NONE for others."
    private static void ofNetNumbers() {
        HopNet x = Scene.twoNets();
        int[] due = {3, 9, 1, NONE, 0, 0, 0};
        for (int what = 0; what <= 6; what++) {
            Edge.all("43 of net 1, " + what, due[what], x.ofNet(1, what));
        }
        for (int what : new int[] {-1, 7, MIN, MAX}) {
            Edge.all("43 what " + what, NONE, x.ofNet(1, what));
        }
        for (int net : NO_NETS) {
            Edge.all("43 net " + net, NONE, x.ofNet(net, 0), x.ofNet(net, 2), x.ofNet(net, 6));
        }
        for (int what = 0; what <= 6; what++) {
            Edge.all("43 net not there", NONE, new HopNet().ofNet(0, what), new HopNet().ofNet(1, what));
        }
    }

    // 44: "0 TIME .. 19 .. . NONE for others."
    private static void countNumbers() {
        HopNet x = new HopNet();
        int[] due = {0, 0, 1, 16, 0, 0, 0, 0, 0, 0, 0, 0, 0, 0, 0, 0, 0, 0, 2, 0};
        for (int what = 0; what < 20; what++) {
            Edge.all("44 at first " + what, due[what], x.count(what));
        }
        Edge.all("44 what", NONE, x.count(-1), x.count(20), x.count(MIN), x.count(MAX));
    }

    // 44: "5 .. 8 how many calls were REFUSED by -1, -2, -4, -5": each alone, and each more than once.
    private static void countOfRefusals() {
        HopNet x = Scene.oneNet(1);
        for (int i = 1; i <= 3; i++) {
            Edge.all("44 -1", -1, x.noise(23, 0));
            Edge.all("44 -2", -2, x.leave(1, 0));
            Edge.all("44 -4", -4, x.back(0));
            Edge.all("44 told", i, x.count(5), x.count(6), x.count(7));
            Edge.all("44 by -5 none", 0, x.count(8));
        }
        Scene.put(x, 0, 0, 8);
        Edge.all("44 -5", -5, x.put(0, 0, 0, 0), x.put(0, 0, 0, 0));
        Edge.all("44 by -5", 2, x.count(8));
        x.undo();
        x.image(0);
        x.back(0);
        Edge.all("44 they stay told", 3332, x.count(5) * 1000 + x.count(6) * 100 + x.count(7) * 10 + x.count(8));
    }

    // 44: "4 NUMBERS HEARD of all LINKS that there are".
    private static void countOfHeardByThoseThatAreThere() {
        HopNet x = Scene.oneNet(2);
        x.put(0, 0, 0, 1);
        x.put(0, 0, 1, 1);
        x.put(0, 1, 0, 1);
        x.run(2);
        Edge.all("44 of both", 3, x.count(4));
        x.leave(0, 0);
        Edge.all("44 of the one that is there", 1, x.count(4));
        x.leave(0, 0);
        Edge.all("44 of none", 0, x.count(4));
    }

    // 45: "0 if it was not, or ahead of any"; each act that is named there is told, questions are not.
    private static void statusOfEachAct() {
        HopNet x = new HopNet();
        Edge.all("45 ahead of any", 0, x.status());
        Edge.all("45 a question that can't be", NONE, x.kernel(-1, -1));
        Edge.all("45 is not told", 0, x.status());
        x.undo();
        Edge.all("45 undo", -4, x.status());
        x.radio(1);
        Edge.all("45 radio", 0, x.status());
        Edge.all("45 a question that can't be", NONE, x.count(99));
        Edge.all("45 is not told", 0, x.status());
        x.radio(-1);
        Edge.all("45 radio refused", -1, x.status());
        Edge.all("45 a question that can be", 1, x.count(1));
        Edge.all("45 does not end it", -1, x.status());
        x.undo();
        Edge.all("45 undo that was not", 0, x.status());
        x.back(0);
        Edge.all("45 back refused", -4, x.status());
        x.image(0);
        Edge.all("45 image", 0, x.status());
        x.image(2);
        Edge.all("45 image refused", -1, x.status());
        x.back(0);
        Edge.all("45 back", 0, x.status());
    }

    // 19 .. 45: no question is REFUSED, and none changes a thing.
    private static void questionsChangeNothing() {
        HopNet x = Scene.twoNets();
        Scene.put(x, 0, 0, 3);
        x.cast(1, 5);
        x.run(3);
        x.put(0, 0, 0, 256);
        List<Integer> before = View.of(x);
        for (int v : new int[] {MIN, -1, 0, 1, 16, MAX}) {
            x.kernel(v, v);
            x.hop(v, v, v);
            x.alike(v, v, v);
            x.mapOf(v, v, v);
            x.meets();
            x.used(v, v, v);
            x.bad(v, v);
            x.sent(v, v, v);
            x.link(v, v, v);
            x.hash(v, v, v);
            x.reserved(v, v, v);
            x.isThere(v, v, v);
            x.odds(v, v, v, v);
            x.clashes(v);
            x.bestOffset(v);
            x.drain(v, v);
            x.would(v, 1, 0);
            x.ready(v, v);
            x.bothReady(v, v, v, v);
            x.ahead(v, 1);
            x.together(v, v, v);
            x.ranked(v, v);
            x.quiet(v, v);
            x.bestShare(v);
            x.ofNet(v, v);
            x.count(v);
        }
        Edge.all("45 the latest act is told", -1, x.status());
        Edge.all("44 one refusal by -1", 1, x.count(5));
        Edge.all("44 none by others", 0, x.count(6), x.count(7), x.count(8));
        Edge.all("44 what can be undone", 8, x.count(9));
        Check.that("no question changes a thing", before.equals(View.of(x)));
    }

    public static void main(String[] args) {
        kernelNumbers();
        kernelBits();
        hopNumbers();
        hopByTheMapNow();
        alikeNumbers();
        alikeInAll();
        mapOfNumbers();
        meetsFromTimeOn();
        meetsWithin4000();
        usedNumbers();
        badNumbers();
        badByHalf();
        badOfTheOuterChannels();
        sentNumbers();
        linkNumbers();
        hashNumbers();
        hashGoesRound();
        reservedNumbers();
        reservedTurnsLeft();
        isThereNumbers();
        oddsNumbers();
        oddsOfLeastAndMostNoise();
        oddsOfTheNextTurns();
        oddsInEitherSlot();
        clashesNumbers();
        clashesAndBestOffsetByMaps();
        bestOffsetNumbers();
        bestOffsetIsBelow64();
        bestOffsetOfTheNextSlots();
        drainNumbers();
        drainIn400();
        drainToTheEnd();
        wouldNumbers();
        wouldToTheEnd();
        wouldMissAndFallOutOfStep();
        readyNumbers();
        bothReadyNumbers();
        aheadNumbers();
        togetherNumbers();
        togetherFarOn();
        rankedNumbers();
        rankedOfNone();
        quietNumbers();
        bestShareNumbers();
        bestShareFromLeastToGreatest();
        ofNetNumbers();
        countNumbers();
        countOfRefusals();
        countOfHeardByThoseThatAreThere();
        statusOfEachAct();
        questionsChangeNothing();
        Check.finish();
    }
}
