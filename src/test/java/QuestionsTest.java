/** Promises 19 to 45: questions, their edges, what they answer to numbers that can't be. */
public final class QuestionsTest {
    private static final int ALL = 8388607;
    private static final int NONE = HopNet.NONE;

    /** NET 0 of RADIO 0 with RADIOS 1, 2; NET 1 of RADIO 3 with RADIO 1: RADIO 1 shares. */
    private static HopNet nets() {
        HopNet x = new HopNet();
        x.radio(12345);
        x.radio(777);
        x.radio(888);
        x.radio(54321);
        x.net(0, 0, 0);
        x.net(1, 3, 0);
        x.join(0, 1);
        x.join(0, 2);
        x.join(1, 1);
        return x;
    }

    private static void noneChanges(HopNet x, String what, Runnable questions) {
        int before = x.status() * 1000 + x.count(5) + x.count(6) + x.count(7) + x.count(8) + x.count(9);
        questions.run();
        int after = x.status() * 1000 + x.count(5) + x.count(6) + x.count(7) + x.count(8) + x.count(9);
        Check.due(what + ": a question is never told as refused", after, before);
    }

    private static void kernel() {
        HopNet x = new HopNet();
        Check.due("19 told", x.kernel(12345, 0), 12);
        Check.due("19 told", x.kernel(12345, 1), 5);
        // All bits 0: z is the clock's low bits.
        Check.due("19 zero", x.kernel(0, 0), 0);
        Check.due("19 odd", x.kernel(0, 1), 14);
        Check.due("19 modulo 23", x.kernel(0, 30), 7);
        Check.due("19 modulo 32", x.kernel(3, 30), 1);
        Check.due("19 bits 5 .. 9 of the address", x.kernel(31 << 5, 0), 31 % 23);
        Check.due("19 bits 19 .. 23 of the address", x.kernel(31 << 19, 0), 31 % 23);
        Check.due("19 bits above are not asked", x.kernel(15 << 24, 0), 0);
        // p is bit 0 alone by address bit 10: bits 0 and 3 are exchanged.
        Check.due("19 exchange 0 and 3", x.kernel(1 << 10 | 1, 0), 8);
        Check.due("19 exchange 1 and 2", x.kernel(1 << 11 | 2, 0), 4);
        Check.due("19 exchange 0 and 1", x.kernel(1 << 12 | 1, 0), 2);
        Check.due("19 exchange 2 and 4", x.kernel(1 << 13 | 4, 0), 16);
        Check.due("19 exchange 1 and 4", x.kernel(1 << 14 | 2, 0), 16);
        Check.due("19 exchange 0 and 2", x.kernel(1 << 15 | 1, 0), 4);
        Check.due("19 exchange 3 and 4", x.kernel(1 << 16 | 8, 0), 16);
        Check.due("19 exchange 1 and 3", x.kernel(1 << 17 | 2, 0), 8);
        Check.due("19 exchange 0 and 4", x.kernel(1 << 18 | 1, 0), 16);
        Check.due("19 clock bit 5 is bit 0 of p", x.kernel(1, 32), 8);
        Check.due("19 both cancel", x.kernel(1 << 10 | 1, 32), 1);
        // Clock bit 7 is bit 0 of z and bit 2 of p: 0 and 1 are exchanged.
        Check.due("19 clock bit 7", x.kernel(0, 128), 2);
        Check.due("19 clock bit 13", x.kernel(1, 1 << 13), 16);
        Check.due("19 clock bit 14 is not asked", x.kernel(0, 1 << 14), 0);
        Check.due("19 address below", x.kernel(-1, 0), NONE);
        Check.due("19 address above", x.kernel(268435456, 0), NONE);
        Check.due("19 clock below", x.kernel(0, -1), NONE);
        Check.due("19 clock above", x.kernel(0, 1000000), NONE);
        Check.that("19 last ones", x.kernel(268435455, 999999) != NONE);
    }

    private static void hop() {
        HopNet x = nets();
        Check.due("20 link below", x.hop(0, -2, 0), NONE);
        Check.due("20 link above", x.hop(0, 2, 0), NONE);
        Check.due("20 net", x.hop(2, -1, 0), NONE);
        Check.due("20 net not there", new HopNet().hop(0, -1, 0), NONE);
        Check.due("20 slot below", x.hop(0, -1, -1), NONE);
        Check.due("20 slot above", x.hop(0, -1, 200000), NONE);
        Check.due("20 last slot", x.hop(0, -1, 199999), x.kernel(12345, 199999));
        Check.due("20 of net 1", x.hop(1, 0, 70), x.kernel(54321, 70));
        x.map(0, 0xff0, 1);
        x.reserve(0, 0, 6, 0, 3);
        for (int c = 0; c < 23; c++) {
            x.noise(c, 16);
        }
        x.run(2);
        for (int slot = 0; slot < 100; slot++) {
            int h = x.kernel(12345, slot);
            int by = h >= 4 && h < 12 ? h : 4 + h % 8;
            Check.due("20 by the net's map", x.hop(0, -1, slot), by);
            Check.due("20 by the member's own", x.hop(0, 0, slot), h);
        }
        HopNet y = new HopNet();
        y.radio(12345);
        y.net(1, 0, 65535);
        Check.due("20 by its clock", y.hop(1, -1, 11), y.kernel(12345, 65546));
    }

    private static void alikeAndMapOf() {
        HopNet x = nets();
        for (int what = -1; what <= 3; what++) {
            boolean can = what >= 0 && what <= 2;
            Check.due("21 what " + what, x.alike(0, 1, what), can ? 1 : NONE);
        }
        Check.due("21 link", x.alike(0, 2, 0), NONE);
        Check.due("21 no link", x.alike(0, -1, 0), NONE);
        Check.due("21 net", x.alike(2, 0, 0), NONE);
        Check.due("22 without", x.mapOf(0, -1, 1), 0);
        Check.due("22 without", x.mapOf(0, 0, 2), NONE);
        Check.due("22 ahead at first", x.mapOf(0, -1, 3), ALL);
        Check.due("22 of links there is none", x.mapOf(0, 0, 3), NONE);
        Check.due("22 what below", x.mapOf(0, -1, -1), NONE);
        Check.due("22 what above", x.mapOf(0, -1, 4), NONE);
        Check.due("22 link", x.mapOf(0, 2, 0), NONE);
        Check.due("22 link below", x.mapOf(0, -2, 0), NONE);
        Check.due("22 net", x.mapOf(-1, -1, 0), NONE);
        x.map(1, 0x7fff, 50);
        Check.due("21 not alike", x.alike(1, 0, 0), 0);
        Check.due("21 the map is", x.alike(1, 0, 1), 1);
        Check.due("21 not known", x.alike(1, 0, 2), 0);
        Check.due("22 next", x.mapOf(1, -1, 1), 0x7fff);
        Check.due("22 instant", x.mapOf(1, -1, 2), 100);
        Check.due("22 map", x.mapOf(1, -1, 0), ALL);
        Check.due("22 the other net's", x.mapOf(0, -1, 1), 0);
        x.terms(1, 0);
        x.run(49);
        Check.due("22 not yet", x.mapOf(1, 0, 0), ALL);
        x.run(2);
        Check.due("22 then", x.mapOf(1, 0, 0) & x.mapOf(1, -1, 0), 0x7fff);
        x.map(1, 0x7fffff, 1);
        x.run(2);
        Check.due("22 the latest ahead", x.mapOf(1, -1, 3), 0x7fff);
    }

    private static void meetsAndClashesAndUsed() {
        HopNet x = nets();
        x.run(7);
        int first = NONE;
        int in512 = 0;
        int[] uses = new int[23];
        for (int slot = 14; slot < 14 + 4000; slot++) {
            boolean meet = x.hop(0, -1, slot) == x.hop(1, -1, slot);
            first = meet && first == NONE ? slot : first;
            in512 += meet && slot < 14 + 512 ? 1 : 0;
            uses[x.hop(0, -1, slot)] += slot < 14 + 512 ? 1 : 0;
        }
        Check.due("23 first", x.meets(), first);
        Check.due("32 clashes", x.clashes(512), in512);
        Check.due("32 one slot", x.clashes(1), first == 14 ? 1 : 0);
        Check.due("32 up to the first", x.clashes(first - 14 + 1), 1);
        Check.due("32 n below", x.clashes(0), NONE);
        Check.due("32 n above", x.clashes(513), NONE);
        for (int c = 0; c < 23; c++) {
            Check.due("24 used", x.used(0, c, 512), uses[c]);
        }
        Check.due("24 one slot", x.used(0, x.hop(0, -1, 14), 1), 1);
        Check.due("24 channel below", x.used(0, -1, 5), NONE);
        Check.due("24 channel above", x.used(0, 23, 5), NONE);
        Check.due("24 n below", x.used(0, 0, 0), NONE);
        Check.due("24 n above", x.used(0, 0, 513), NONE);
        Check.due("24 net", x.used(2, 0, 5), NONE);
        HopNet y = new HopNet();
        y.radio(0);
        y.radio(1 << 19);
        y.net(0, 0, 0);
        Check.due("23 one net alone", y.meets(), NONE);
        Check.due("32 one net alone", y.clashes(5), NONE);
        Check.due("33 one net alone", y.bestOffset(5), NONE);
        y.net(1, 1, 0);
        Check.due("23 never", y.meets(), NONE);
        Check.due("32 never", y.clashes(512), 0);
    }

    private static void meetsWithin4000() {
        HopNet x = new HopNet();
        x.radio(1572864);
        x.radio(9502720);
        x.net(0, 0, 0);
        x.net(1, 1, 0);
        x.map(0, 7357100, 1);
        x.map(1, 902210, 1);
        for (int i = 0; i < 31; i++) {
            x.run(200);
        }
        x.run(61);
        // These two meet at 16,522, and not in the 12,000 slots ahead of that.
        Check.due("23 it is 4,000 slots from now", x.hop(0, -1, 16522), x.hop(1, -1, x.count(0) + 4000));
        Check.due("23 that is too far", x.meets(), NONE);
        x.run(1);
        Check.due("23 and now it is not", x.meets(), 16522);
    }

    private static void bestOffset() {
        HopNet x = nets();
        x.map(0, 0xff, 1);
        x.map(1, 0xff, 1);
        x.run(3);
        for (int n : new int[] {1, 5, 64, 300, 512}) {
            int best = 0;
            int fewest = Integer.MAX_VALUE;
            for (int offset = 0; offset < 64; offset++) {
                int times = 0;
                for (int slot = 6; slot < 6 + n; slot++) {
                    int other = x.hop(1, -1, slot + offset);
                    times += x.hop(0, -1, slot) == other ? 1 : 0;
                }
                if (times < fewest) {
                    fewest = times;
                    best = offset;
                }
            }
            Check.due("33 best of " + n, x.bestOffset(n), best);
        }
        Check.due("33 n below", x.bestOffset(0), NONE);
        Check.due("33 n above", x.bestOffset(513), NONE);
    }

    private static void badSentRanked() {
        HopNet x = nets();
        Check.due("25 none", x.bad(0, 1), 0);
        Check.due("25 n below", x.bad(0, 0), NONE);
        Check.due("25 n above", x.bad(0, 100), NONE);
        Check.due("25 net", x.bad(2, 1), NONE);
        Check.due("26 what", x.sent(0, 0, 2), NONE);
        Check.due("26 what below", x.sent(0, 0, -1), NONE);
        Check.due("26 channel", x.sent(0, 23, 0), NONE);
        Check.due("26 channel below", x.sent(0, -1, 0), NONE);
        Check.due("26 net", x.sent(2, 0, 0), NONE);
        Check.due("40 none", x.ranked(0, 0), NONE);
        for (int c = 0; c < 23; c++) {
            x.noise(c, c % 2 == 0 ? 10 : 1);
        }
        x.run(200);
        for (int n : new int[] {1, 5, 9, 99}) {
            int bits = 0;
            for (int c = 0; c < 23; c++) {
                boolean isBad = x.sent(0, c, 0) >= n && x.sent(0, c, 1) * 2 < x.sent(0, c, 0);
                bits |= isBad ? 1 << c : 0;
            }
            Check.due("25 by " + n, x.bad(0, n), bits);
        }
        int sum = 0;
        int used = 0;
        for (int c = 0; c < 23; c++) {
            sum += x.sent(0, c, 0);
            used += x.sent(0, c, 0) > 0 ? 1 : 0;
        }
        Check.due("26 in all", sum, x.link(0, 0, 10) + x.link(0, 1, 10));
        int seen = 0;
        for (int i = 0; i < used; i++) {
            int c = x.ranked(0, i);
            seen |= 1 << c;
            if (i + 1 < used) {
                int d = x.ranked(0, i + 1);
                long one = (long) x.sent(0, c, 1) * x.sent(0, d, 0);
                long two = (long) x.sent(0, d, 1) * x.sent(0, c, 0);
                Check.that("40 falling", one > two || one == two && c < d);
            }
        }
        Check.due("40 all of them", Integer.bitCount(seen), used);
        Check.due("40 no more", x.ranked(0, used), NONE);
        Check.due("40 below", x.ranked(0, -1), NONE);
        Check.due("40 above", x.ranked(0, 1000), NONE);
        Check.due("40 net", x.ranked(2, 0), NONE);
        int bad = x.bad(0, 1);
        int rest = ALL & ~(bad & -bad);
        x.map(0, rest, 1);
        x.run(2);
        Check.due("25 of the map alone", x.bad(0, 1) & bad & -bad, 0);
    }

    private static void halfIsNotBad() {
        HopNet x = nets();
        x.leave(0, 0);
        int slot = 0;
        int channel = x.hop(0, -1, 0);
        x.noise(channel, 16);
        x.run(1);
        Check.due("25 one of one", x.bad(0, 1), 1 << channel);
        x.noise(channel, 0);
        while (x.sent(0, channel, 0) < 2 && slot < 300) {
            x.run(1);
            slot++;
        }
        Check.due("25 one of two is half", x.bad(0, 1), 0);
        Check.due("26 sent", x.sent(0, channel, 0) * 10 + x.sent(0, channel, 1), 21);
    }

    private static void linkAndHash() {
        HopNet x = nets();
        int[] first = {1, 0, 0, 0, 0, 0, 0, 1, 0, 1, 0, 0, 0, 1, 0, 0, 1};
        for (int what = 0; what < first.length; what++) {
            Check.due("27 at first " + what, x.link(0, 0, what), first[what]);
        }
        Check.due("27 what above", x.link(0, 0, 17), NONE);
        Check.due("27 what below", x.link(0, 0, -1), NONE);
        Check.due("27 link", x.link(0, 2, 0), NONE);
        Check.due("27 link below", x.link(0, -1, 0), NONE);
        Check.due("27 net", x.link(2, 0, 0), NONE);
        for (int which = -1; which < 4; which++) {
            Check.due("28 at first", x.hash(0, 0, which), 0);
        }
        x.put(0, 1, 0, 255);
        x.put(0, 1, 1, 0);
        x.run(2);
        Check.due("28 down", x.hash(0, 1, 0), 256);
        Check.due("28 up", x.hash(0, 1, 1), 1);
        Check.due("28 others", x.hash(0, 1, 3), 0);
        Check.due("28 no link", x.hash(0, 2, 0), 0);
        Check.due("28 no net", x.hash(2, 0, 0), 0);
        int hash = 256;
        for (int i = 0; i < 30; i++) {
            x.put(0, 1, 0, i);
            x.run(4);
            hash = 31 * hash + i + 1;
        }
        Check.due("28 as an int", x.hash(0, 1, 0), hash);
        Check.due("27 heard", x.link(0, 1, 3), 31);
    }

    private static void reserved() {
        HopNet x = nets();
        for (int what = 0; what < 6; what++) {
            Check.due("29 is not", x.reserved(0, 0, what), NONE);
        }
        x.reserve(0, 0, 40, 38, 3);
        int[] due = {40, 38, 3, 0, 0, 0};
        for (int what = 0; what < 6; what++) {
            Check.due("29 told " + what, x.reserved(0, 0, what), due[what]);
        }
        Check.due("29 what above", x.reserved(0, 0, 6), NONE);
        Check.due("29 what below", x.reserved(0, 0, -1), NONE);
        Check.due("29 link", x.reserved(0, 5, 0), NONE);
        Check.due("29 net", x.reserved(5, 0, 0), NONE);
    }

    private static void isThere() {
        HopNet x = nets();
        for (int slot = 0; slot < 100; slot++) {
            Check.due("30 shares", x.isThere(1, 0, slot), slot % 32 < 16 ? 1 : 0);
            Check.due("30 is in one", x.isThere(1, 0, slot) + x.isThere(1, 1, slot), 1);
            Check.due("30 in one alone", x.isThere(2, 0, slot), 1);
            Check.due("30 not in it", x.isThere(2, 1, slot), 0);
            Check.due("30 a master", x.isThere(3, 1, slot), 1);
        }
        x.terms(1, 0);
        Check.due("30 share 0", x.isThere(1, 0, 0) * 10 + x.isThere(1, 1, 0), 1);
        x.terms(1, 32);
        Check.due("30 share 32", x.isThere(1, 0, 31) * 10 + x.isThere(1, 1, 31), 10);
        Check.due("30 last slot", x.isThere(1, 0, 199999), 1);
        Check.due("30 slot above", x.isThere(1, 0, 200000), NONE);
        Check.due("30 slot below", x.isThere(1, 0, -1), NONE);
        Check.due("30 radio above", x.isThere(4, 0, 0), NONE);
        Check.due("30 radio below", x.isThere(-1, 0, 0), NONE);
        Check.due("30 net", x.isThere(1, 2, 0), NONE);
        Check.due("30 net below", x.isThere(1, -1, 0), NONE);
        x.leave(1, 0);
        Check.due("30 shares no more", x.isThere(1, 0, 31) * 10 + x.isThere(1, 1, 31), 10);
    }

    private static void isThereInNetWithoutMaster() {
        HopNet x = new HopNet();
        Check.due("30 no radio", x.isThere(0, 0, 0), NONE);
        x.radio(5);
        x.radio(6);
        for (int net = 0; net < 2; net++) {
            Check.due("30 net not there", x.isThere(1, net, 0), 0);
            Check.due("30 net not there, last slot", x.isThere(1, net, 199999), 0);
            Check.due("30 net not there, slot above", x.isThere(1, net, 200000), NONE);
            Check.due("30 net not there, slot below", x.isThere(1, net, -1), NONE);
            Check.due("30 net not there, radio above", x.isThere(2, net, 0), NONE);
            Check.due("30 net not there, radio below", x.isThere(-1, net, 0), NONE);
        }
        Check.due("30 net below, no nets", x.isThere(1, -1, 0), NONE);
        Check.due("30 net above, no nets", x.isThere(1, 2, 0), NONE);
        x.net(0, 0, 0);
        Check.due("30 master of the other", x.isThere(0, 0, 31) * 10 + x.isThere(0, 1, 31), 10);
        x.undo();
        Check.due("30 net taken back", x.isThere(0, 0, 31), 0);
    }

    private static void odds() {
        HopNet x = nets();
        Check.due("31 sure", x.odds(0, 0, 64, 0) * 10 + x.odds(0, 0, 64, 1), 11);
        x.noise(x.hop(0, -1, 0), 8);
        Check.due("31 upper", x.odds(0, 0, 1, 0), 1);
        Check.due("31 lower", x.odds(0, 0, 1, 1), 2);
        x.noise(x.hop(0, -1, 1), 4);
        Check.due("31 both slots", x.odds(0, 0, 1, 0) * 10 + x.odds(0, 0, 1, 1), 38);
        x.noise(x.hop(0, -1, 0), 16);
        Check.due("31 never", x.odds(0, 0, 1, 0) * 10 + x.odds(0, 0, 1, 1), 1);
        for (int c = 0; c < 23; c++) {
            x.noise(c, c % 5);
        }
        long sum = 0;
        for (int i = 0; i < 64; i++) {
            sum += (16 - x.hop(0, -1, 2 * i) % 5) * (16 - x.hop(0, -1, 2 * i + 1) % 5);
        }
        long up = x.odds(0, 0, 64, 0);
        long low = x.odds(0, 0, 64, 1);
        Check.due("31 the mean", up * 256 * 64, low * sum);
        for (long d = 2; d <= low; d++) {
            Check.that("31 lowest terms", up % d != 0 || low % d != 0);
        }
        Check.due("31 n below", x.odds(0, 0, 0, 0), NONE);
        Check.due("31 n above", x.odds(0, 0, 65, 0), NONE);
        Check.due("31 what", x.odds(0, 0, 1, 2), NONE);
        Check.due("31 what below", x.odds(0, 0, 1, -1), NONE);
        Check.due("31 link", x.odds(0, 4, 1, 0), NONE);
        Check.due("31 net", x.odds(2, 0, 1, 0), NONE);
    }

    private static void oddsOutOfStep() {
        HopNet x = nets();
        for (int c = 0; c < 23; c++) {
            x.noise(c, 16);
        }
        x.map(0, 0x7fff, 1);
        x.run(2);
        for (int c = 0; c < 23; c++) {
            x.noise(c, 0);
        }
        int inStep = 0;
        for (int i = 0; i < 64; i++) {
            int slot = x.count(0) + 2 * i;
            boolean both = x.hop(0, 0, slot) == x.hop(0, -1, slot)
                    && x.hop(0, 0, slot + 1) == x.hop(0, -1, slot + 1);
            inStep += both ? 1 : 0;
        }
        Check.that("31 now and then in step", inStep > 0 && inStep < 64);
        Check.due("31 out of step", (long) x.odds(0, 0, 64, 0) * 64, (long) inStep * x.odds(0, 0, 64, 1));
    }

    private static void drain() {
        HopNet x = nets();
        Check.due("34 they are", x.drain(0, 1), 0);
        Check.due("34 link", x.drain(0, 2), NONE);
        Check.due("34 net", x.drain(2, 0), NONE);
        x.put(0, 1, 0, 1);
        Check.due("34 its poll is the second", x.drain(0, 1), 2);
        x.put(0, 1, 1, 1);
        Check.due("34 up takes one more packet", x.drain(0, 1), 4);
        Check.due("34 on paper", x.count(0), 0);
        x.terms(1, 0);
        x.put(0, 0, 0, 1);
        Check.due("34 never there", x.drain(0, 0), NONE);
        for (int c = 0; c < 23; c++) {
            x.noise(c, 16);
        }
        Check.due("34 never heard", x.drain(0, 1), NONE);
    }

    private static void drainWithin400() {
        HopNet x = nets();
        x.sniff(0, 1, 64, 1);
        for (int i = 0; i < 8; i++) {
            x.put(0, 1, 0, i);
        }
        x.run(1);
        Check.due("34 one each 32 turns", x.drain(0, 1), 32 * x.link(0, 1, 1));
        for (int i = 0; i < 8; i++) {
            x.put(0, 1, 1, i);
        }
        Check.due("34 up needs one more", x.drain(0, 1), 32 * 9);
    }

    private static void drainIn400() {
        HopNet x = nets();
        x.sniff(0, 1, 64, 1);
        for (int c = 0; c < 23; c++) {
            x.noise(c, 9);
        }
        for (int i = 0; i < 8; i++) {
            x.put(0, 1, 0, i);
        }
        Check.due("34 not in 400 turns", x.drain(0, 1), NONE);
        int turns = 0;
        while (x.drain(0, 1) == NONE && turns < 2000) {
            x.run(1);
            turns++;
        }
        Check.due("34 in 400 turns", x.drain(0, 1), 400);
    }

    private static void would() {
        HopNet x = nets();
        x.put(0, 0, 0, 1);
        x.put(1, 0, 0, 2);
        x.reserve(0, 0, 6, 0, 1);
        Check.due("35 both nets in turn", x.would(16, 16, 0), 2);
        Check.due("35 one alone", x.would(32, 16, 0), 1);
        Check.due("35 the other alone", x.would(0, 16, 0), 1);
        Check.due("35 missed by none", x.would(32, 16, 1), 0);
        Check.due("35 missed all along", x.would(0, 16, 1), 6);
        Check.due("35 no other maps", x.would(0, 16, 2), 0);
        x.map(0, 0xffff, 2);
        Check.due("35 one does not hear of it", x.would(0, 16, 2), 1);
        Check.due("35 all hear of it", x.would(32, 16, 2), 0);
        Check.due("35 share odd", x.would(3, 1, 0), NONE);
        Check.due("35 share above", x.would(34, 1, 0), NONE);
        Check.due("35 share below", x.would(-2, 1, 0), NONE);
        Check.due("35 n below", x.would(2, 0, 0), NONE);
        Check.due("35 n above", x.would(2, 201, 0), NONE);
        Check.due("35 what below", x.would(2, 2, -1), NONE);
        Check.due("35 what above", x.would(2, 2, 3), NONE);
        Check.due("35 on paper", x.count(3) * 10 + x.count(0), 160);
        x.terms(1, 0);
        x.run(16);
        Check.due("35 missed in these turns alone", x.would(32, 16, 1), 0);
    }

    private static void readyAndBothReady() {
        HopNet x = nets();
        Check.due("36 at once", x.ready(0, 0), 0);
        Check.due("36 when it comes over", x.ready(1, 0), 16);
        x.sniff(0, 1, 64, 2);
        x.run(2);
        Check.due("36 when it wakes", x.ready(0, 1), 64);
        Check.due("37 both", x.bothReady(0, 0, 1, 200), 2 * 6);
        Check.due("37 one and the same", x.bothReady(0, 0, 0, 16), 8);
        Check.due("37 one turn", x.bothReady(0, 0, 0, 1), 1);
        Check.due("37 n below", x.bothReady(0, 0, 0, 0), NONE);
        Check.due("37 n above", x.bothReady(0, 0, 0, 201), NONE);
        Check.due("37 link", x.bothReady(0, 2, 0, 1), NONE);
        Check.due("37 other", x.bothReady(0, 0, 2, 1), NONE);
        Check.due("37 net", x.bothReady(2, 0, 0, 1), NONE);
        Check.due("36 link", x.ready(0, 2), NONE);
        Check.due("36 net", x.ready(2, 0), NONE);
        x.terms(1, 0);
        Check.due("36 never", x.ready(0, 0), NONE);
        Check.due("37 never", x.bothReady(0, 0, 1, 200), 0);
    }

    private static void readyWithin200() {
        HopNet x = nets();
        // Awake at 0, 62 .. ; in NET 1 from 30 of each 32 on: first together at 62.
        x.terms(1, 30);
        x.sniff(1, 0, 62, 1);
        Check.due("36 both by chance", x.ready(1, 0), 62);
        // The next such time is 992 slots on.
        x.run(200);
        x.run(200);
        x.run(27);
        Check.due("36 not within 200 slots", x.ready(1, 0), NONE);
        x.run(1);
        Check.due("36 within 200 slots", x.ready(1, 0), 1054);
    }

    private static void ahead() {
        HopNet x = nets();
        Check.due("38 first", x.ahead(0, 1), 0);
        Check.due("38 second", x.ahead(0, 2), 1);
        Check.due("38 none", x.ahead(1, 1), NONE);
        Check.due("38 when it comes over", x.ahead(1, 9), 0);
        x.cast(1, 5);
        Check.due("38 casts", x.ahead(1, 2), -2);
        Check.due("38 no more", x.ahead(1, 3), NONE);
        Check.due("38 n below", x.ahead(0, 0), NONE);
        Check.due("38 n above", x.ahead(0, 201), NONE);
        Check.due("38 net", x.ahead(2, 1), NONE);
        Check.due("38 on paper", x.ofNet(0, 3), NONE);
    }

    private static void together() {
        HopNet x = nets();
        x.reserve(0, 0, 6, 2, 1);
        Check.due("39 the other is not reserved", x.together(0, 0, 1), NONE);
        x.reserve(0, 1, 10, 8, 1);
        Check.due("39 first", x.together(0, 0, 1), 8);
        x.run(5);
        Check.due("39 from now on", x.together(0, 0, 1), 38);
        Check.due("39 either way", x.together(0, 1, 0), 38);
        Check.due("39 like ones", x.together(0, 0, 0), NONE);
        Check.due("39 link", x.together(0, 0, 2), NONE);
        Check.due("39 net", x.together(2, 0, 1), NONE);
        x.reserve(0, 1, 12, 4, 1);
        Check.due("39 never", x.together(0, 0, 1), NONE);
    }

    private static void quiet() {
        HopNet x = nets();
        Check.due("41 all came now", x.quiet(0, 0), 3);
        Check.due("41 none came earlier", x.quiet(0, 1), 0);
        x.run(2);
        Check.due("41 one answered two turns ago", x.quiet(0, 2), 1);
        Check.due("41 both a turn ago or more", x.quiet(0, 1), 3);
        Check.due("41 none three", x.quiet(0, 3), 0);
        Check.due("41 never heard since it came", x.quiet(1, 2), 1);
        for (int c = 0; c < 23; c++) {
            x.noise(c, 16);
        }
        x.run(10);
        Check.due("41 ten more", x.quiet(0, 12), 1);
        Check.due("41 and the other", x.quiet(0, 11), 3);
        Check.due("41 n below", x.quiet(0, -1), NONE);
        Check.due("41 n above", x.quiet(0, 10000), NONE);
        Check.due("41 last n", x.quiet(0, 9999), 0);
        Check.due("41 net", x.quiet(2, 0), NONE);
    }

    private static void bestShare() {
        HopNet x = nets();
        Check.due("42 all alike: the least", x.bestShare(16), 0);
        x.put(0, 0, 0, 1);
        Check.due("42 the first turn is enough", x.bestShare(16), 2);
        x.put(1, 0, 0, 1);
        x.put(1, 0, 0, 1);
        Check.due("42 both", x.bestShare(16), 2);
        Check.due("42 n below", x.bestShare(0), NONE);
        Check.due("42 n above", x.bestShare(33), NONE);
        Check.due("42 without nets", new HopNet().bestShare(32), 0);
        Check.due("42 on paper", x.count(3), 16);
    }

    private static void ofNet() {
        HopNet x = nets();
        int[] first = {0, 0, 2, NONE, 0, 0, 0};
        for (int what = 0; what < first.length; what++) {
            Check.due("43 at first " + what, x.ofNet(0, what), first[what]);
        }
        Check.due("43 what above", x.ofNet(0, 7), NONE);
        Check.due("43 what below", x.ofNet(0, -1), NONE);
        Check.due("43 net", x.ofNet(2, 0), NONE);
        Check.due("43 net below", x.ofNet(-1, 0), NONE);
        Check.due("43 not there", new HopNet().ofNet(0, 2), NONE);
        Check.due("43 master", x.ofNet(1, 0), 3);
    }

    private static void countAndStatus() {
        HopNet x = nets();
        Check.due("44 what below", x.count(-1), NONE);
        Check.due("44 what above", x.count(20), NONE);
        x.radio(-1);
        Check.due("45 -1", x.status(), -1);
        x.leave(0, 7);
        Check.due("45 -2", x.status(), -2);
        x.leave(0, 7);
        x.back(1);
        Check.due("45 -4", x.status(), -4);
        Check.due("45 questions leave it", x.link(0, 9, 9) + x.status(), -5);
        for (int i = 0; i < 4; i++) {
            x.cast(0, 1);
        }
        Check.due("45 0", x.status(), 0);
        x.cast(0, 1);
        Check.due("45 -5", x.status(), -5);
        Check.due("44 by -1", x.count(5), 1);
        Check.due("44 by -2", x.count(6), 2);
        Check.due("44 by -4", x.count(7), 1);
        Check.due("44 by -5", x.count(8), 1);
        Check.due("45 undo is told", x.undo() + x.status(), 11);
        x.image(0);
        x.image(5);
        Check.due("45 image", x.status(), -1);
        x.back(0);
        Check.due("45 back", x.status(), 0);
        x.undo();
        Check.due("45 undo refused", x.status(), -4);
        Check.due("44 by -4 again", x.count(7), 2);
        Check.due("44 none can be undone", x.count(9), 0);
    }

    private static void heardOfLinksThatThereAre() {
        HopNet x = nets();
        x.terms(1, 32);
        x.put(0, 0, 0, 1);
        x.put(0, 1, 1, 1);
        x.run(2);
        Check.due("44 heard", x.count(4), 2);
        x.leave(0, 0);
        Check.due("44 of links that there are", x.count(4), 1);
        Check.due("44 packets stay", x.count(10), 2);
    }

    private static void questionsAreNoActs() {
        HopNet x = nets();
        x.radio(-1);
        noneChanges(x, "questions", () -> {
            x.kernel(-1, -1);
            x.hop(9, 9, 9);
            x.would(99, 99, 99);
            x.drain(7, 7);
            x.bestShare(-1);
            x.bestShare(4);
            x.ahead(0, 9);
            x.isThere(9, 9, 9);
        });
    }

    public static void main(String[] args) {
        kernel();
        hop();
        alikeAndMapOf();
        meetsAndClashesAndUsed();
        meetsWithin4000();
        bestOffset();
        badSentRanked();
        halfIsNotBad();
        linkAndHash();
        reserved();
        isThere();
        isThereInNetWithoutMaster();
        odds();
        oddsOutOfStep();
        drain();
        drainWithin400();
        drainIn400();
        would();
        readyAndBothReady();
        readyWithin200();
        ahead();
        together();
        quiet();
        bestShare();
        ofNet();
        countAndStatus();
        heardOfLinksThatThereAre();
        questionsAreNoActs();
        Check.finish();
    }
}
