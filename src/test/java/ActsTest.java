/** Promises 1 to 18: acts, their edges, what they are REFUSED by. */
public final class ActsTest {
    private static final int ALL = 8388607;

    /** NET 0 of RADIO 0 with LINKS of RADIOS 1, 2; NET 1 of RADIO 3 with a LINK of RADIO 1. */
    private static HopNet nets() {
        HopNet x = new HopNet();
        for (int i = 0; i < 4; i++) {
            x.radio(1000 + 77 * i);
        }
        x.net(0, 0, 0);
        x.net(1, 3, 9);
        x.join(0, 1);
        x.join(0, 2);
        x.join(1, 1);
        return x;
    }

    private static void aNewObject() {
        HopNet x = new HopNet();
        Check.due("1 time", x.count(0), 0);
        Check.due("1 radios", x.count(1), 0);
        Check.due("1 seed", x.count(2), 1);
        Check.due("1 share", x.count(3), 16);
        for (int what = 4; what < 18; what++) {
            Check.due("1 count " + what, x.count(what), 0);
        }
        Check.due("1 repeats", x.count(18), 2);
        Check.due("1 new maps", x.count(19), 0);
        Check.due("1 no net 0", x.ofNet(0, 0), HopNet.NONE);
        Check.due("1 no net 1", x.ofNet(1, 2), HopNet.NONE);
        Check.due("1 status", x.status(), 0);
        Check.due("1 a run of nothing", x.run(200), 0);
        Check.due("1 no draws in it", x.count(2), 1);
        Check.due("1 its time", x.count(0), 400);
    }

    private static void radio() {
        HopNet x = new HopNet();
        Check.due("2 below", x.radio(-1), -1);
        Check.due("2 above", x.radio(268435456), -1);
        Check.due("2 first", x.radio(0), 0);
        Check.due("2 last address", x.radio(268435455), 1);
        for (int i = 2; i < 6; i++) {
            Check.due("2 the same address again", x.radio(5), i);
        }
        Check.due("2 no room", x.radio(5), -5);
        Check.due("2 -1 ahead of -5", x.radio(-5), -1);
        Check.due("2 radios", x.count(1), 6);
    }

    private static void net() {
        HopNet x = new HopNet();
        Check.due("3 no such radio", x.net(0, 0, 0), -2);
        x.radio(1);
        x.radio(2);
        Check.due("3 net below", x.net(-1, 0, 0), -1);
        Check.due("3 net above", x.net(2, 0, 0), -1);
        Check.due("3 offset below", x.net(0, 0, -1), -1);
        Check.due("3 offset above", x.net(0, 0, 65536), -1);
        Check.due("3 -1 ahead of -2", x.net(0, 9, 65536), -1);
        Check.due("3 radio above", x.net(0, 2, 0), -2);
        Check.due("3 radio below", x.net(0, -1, 0), -2);
        Check.due("3 it stands", x.net(1, 0, 65535), 0);
        Check.due("3 it has one", x.net(1, 1, 0), -4);
        Check.due("3 -2 ahead of -4", x.net(1, 7, 0), -2);
        Check.due("3 master of the other", x.net(0, 0, 0), -4);
        Check.due("3 a member of the other may be one", x.join(1, 1), 0);
        Check.due("3 and is", x.net(0, 1, 3), 0);
        Check.due("3 master told", x.ofNet(0, 0), 1);
        Check.due("3 offset told", x.ofNet(1, 1), 65535);
    }

    private static void join() {
        HopNet x = new HopNet();
        for (int i = 0; i < 6; i++) {
            x.radio(i);
        }
        Check.due("4 net not there", x.join(0, 1), -2);
        x.net(0, 0, 0);
        Check.due("4 net can't be", x.join(2, 1), -2);
        Check.due("4 net below", x.join(-1, 1), -2);
        Check.due("4 radio below", x.join(0, -1), -2);
        Check.due("4 radio above", x.join(0, 6), -2);
        Check.due("4 the master", x.join(0, 0), -4);
        for (int i = 1; i < 5; i++) {
            Check.due("4 links as they come", x.join(0, i), i - 1);
        }
        Check.due("4 no room", x.join(0, 5), -5);
        Check.due("4 -4 ahead of -5", x.join(0, 4), -4);
        Check.due("4 member told", x.link(0, 3, 0), 4);
    }

    private static void joinTakesWhatTheNetHolds() {
        HopNet x = nets();
        x.map(0, 1023, 3);
        x.leave(0, 1);
        Check.due("4 comes again", x.join(0, 2), 1);
        Check.due("4 map", x.mapOf(0, 1, 0), ALL);
        Check.due("4 next map", x.mapOf(0, 1, 1), 1023);
        Check.due("4 instant", x.mapOf(0, 1, 2), 6);
        Check.due("4 known", x.alike(0, 1, 2), 1);
        Check.due("4 the other is not known", x.alike(0, 0, 2), 0);
    }

    private static void leave() {
        HopNet x = new HopNet();
        for (int i = 0; i < 5; i++) {
            x.radio(i * 31);
        }
        x.net(0, 0, 0);
        for (int i = 1; i < 5; i++) {
            x.join(0, i);
        }
        Check.due("5 below", x.leave(0, -1), -2);
        Check.due("5 above", x.leave(0, 4), -2);
        Check.due("5 net not there", x.leave(1, 0), -2);
        Check.due("5 net can't be", x.leave(7, 0), -2);
        x.run(3);
        Check.due("5 polled", x.ofNet(0, 3), 2);
        Check.due("5 one below it leaves", x.leave(0, 0), 3);
        Check.due("5 polled is the same member", x.ofNet(0, 3), 1);
        Check.due("5 members move up", x.link(0, 0, 0), 2);
        Check.due("5 one above it leaves", x.leave(0, 2), 2);
        Check.due("5 polled stays", x.ofNet(0, 3), 1);
        Check.due("5 polled itself leaves", x.leave(0, 1), 1);
        Check.due("5 polled is one less", x.ofNet(0, 3), 0);
        Check.due("5 the last one leaves", x.leave(0, 0), 0);
        Check.due("5 polled is none", x.ofNet(0, 3), HopNet.NONE);
        Check.due("5 nobody is there", x.leave(0, 0), -2);
        Check.due("5 it can come again, as new", x.join(0, 3), 0);
        Check.due("5 never chosen", x.link(0, 0, 10), 0);
    }

    private static void comesBackAsNew() {
        HopNet x = nets();
        x.terms(1, 32);
        x.terms(2, 1);
        x.cast(0, 9);
        x.put(0, 1, 0, 1);
        x.put(0, 1, 1, 2);
        x.sniff(0, 1, 8, 4);
        x.weigh(0, 1, 2);
        x.reserve(0, 1, 6, 0, 3);
        x.run(4);
        for (int c = 0; c < 23; c++) {
            x.noise(c, 16);
        }
        x.put(0, 1, 1, 3);
        x.map(0, 4095, 50);
        x.run(3);
        Check.that("5 it had a life", x.link(0, 1, 5) == 11 && x.link(0, 1, 12) == 1 && x.link(0, 1, 8) == 1);
        x.leave(0, 1);
        x.join(0, 2);
        int[] due = {2, 0, 0, 0, 0, 0, 0, 1, 0, 1, 0, 0, 0, 1, 0, 0, 1};
        for (int what = 0; what < due.length; what++) {
            Check.due("4 it comes as new, " + what, x.link(0, 1, what), due[what]);
        }
        Check.due("4 no hash", x.hash(0, 1, 0) | x.hash(0, 1, 1) | x.hash(0, 1, 2), 0);
        Check.due("4 not reserved", x.reserved(0, 1, 5), HopNet.NONE);
        Check.due("4 does not sniff", x.sniff(0, 1, 0, 0), 0);
        for (int c = 0; c < 23; c++) {
            x.noise(c, 0);
        }
        x.leave(0, 0);
        x.put(0, 0, 1, 5);
        x.leave(1, 0);
        Check.due("4 the first packet takes nothing away", x.run(1), 1);
        Check.due("4 its row", x.link(0, 0, 2), 1);
    }

    private static void upHeardOfOneThatLeft() {
        HopNet x = nets();
        x.leave(0, 0);
        x.put(0, 0, 1, 5);
        x.run(1);
        x.leave(0, 0);
        x.join(0, 2);
        x.put(0, 0, 1, 6);
        x.put(0, 0, 1, 7);
        Check.due("5 what was heard of one that left is gone", x.run(1), 1);
        Check.due("5 both are there", x.link(0, 0, 2), 2);
        Check.due("5 the first was heard", x.hash(0, 0, 1), 7);
    }

    private static void leaveOfPolledPassesTheTurnOn() {
        HopNet x = new HopNet();
        for (int i = 0; i < 4; i++) {
            x.radio(i * 31);
        }
        x.net(0, 0, 0);
        for (int i = 1; i < 4; i++) {
            x.join(0, i);
        }
        for (int i = 0; i < 3; i++) {
            x.weigh(0, i, 4);
        }
        x.run(5);
        Check.due("5 the second is polled", x.ofNet(0, 3), 1);
        x.leave(0, 1);
        Check.due("5 the first is polled, it seems", x.ofNet(0, 3), 0);
        Check.due("5 but the one behind is chosen", x.ahead(0, 1), 1);
        Check.due("5 as often as it weighs", x.ahead(0, 4), 1);
        Check.due("5 then round", x.ahead(0, 5), 0);
        x.sniff(0, 1, 64, 1);
        Check.due("5 without that one it is the first itself", x.ahead(0, 1), 0);
        x.run(1);
        x.sniff(0, 1, 0, 0);
        Check.due("5 its row begins with that", x.ahead(0, 3), 0);
        Check.due("5 and goes as far as it weighs", x.ahead(0, 4), 1);
    }

    private static void noise() {
        HopNet x = new HopNet();
        Check.due("6 channel below", x.noise(-1, 0), -1);
        Check.due("6 channel above", x.noise(23, 0), -1);
        Check.due("6 v below", x.noise(0, -1), -1);
        Check.due("6 v above", x.noise(0, 17), -1);
        Check.due("6 was", x.noise(22, 16), 0);
        Check.due("6 was then", x.noise(22, 3), 16);
        Check.due("6 another's", x.noise(0, 16), 0);
    }

    private static void terms() {
        HopNet x = new HopNet();
        Check.due("7 what below", x.terms(-1, 2), -1);
        Check.due("7 what above", x.terms(3, 2), -1);
        Check.due("7 seed below", x.terms(0, -1), -1);
        Check.due("7 seed above", x.terms(0, 1000001), -1);
        Check.due("7 seed was", x.terms(0, 1000000), 1);
        Check.due("7 seed is", x.terms(0, 0), 1000000);
        Check.due("7 share odd", x.terms(1, 15), -1);
        Check.due("7 share below", x.terms(1, -2), -1);
        Check.due("7 share above", x.terms(1, 34), -1);
        Check.due("7 share was", x.terms(1, 32), 16);
        Check.due("7 share is", x.terms(1, 0), 32);
        Check.due("7 repeats below", x.terms(2, 0), -1);
        Check.due("7 repeats above", x.terms(2, 5), -1);
        Check.due("7 repeats was", x.terms(2, 4), 2);
        Check.due("7 repeats is", x.terms(2, 1), 4);
        Check.due("7 told", x.count(2) + 100 * x.count(3) + 10000 * x.count(18), 10000);
    }

    private static void put() {
        HopNet x = nets();
        Check.due("8 which below", x.put(0, 0, -1, 0), -1);
        Check.due("8 which above", x.put(0, 0, 2, 0), -1);
        Check.due("8 number below", x.put(0, 0, 0, -1), -1);
        Check.due("8 number above", x.put(0, 0, 0, 256), -1);
        Check.due("8 -1 ahead of -2", x.put(9, 9, 9, 9), -1);
        Check.due("8 net", x.put(2, 0, 0, 0), -2);
        Check.due("8 link", x.put(0, 2, 0, 0), -2);
        for (int i = 1; i <= 8; i++) {
            Check.due("8 down", x.put(0, 0, 0, 255), i);
        }
        Check.due("8 no room", x.put(0, 0, 0, 0), -5);
        Check.due("8 up has room", x.put(0, 0, 1, 0), 1);
        Check.due("8 another link has room", x.put(0, 1, 0, 0), 1);
        Check.due("8 told", x.link(0, 0, 1) * 10 + x.link(0, 0, 2), 81);
    }

    private static void reserve() {
        HopNet x = nets();
        Check.due("9 period 4", x.reserve(0, 0, 4, 0, 1), -1);
        Check.due("9 period 42", x.reserve(0, 0, 42, 0, 1), -1);
        Check.due("9 period odd", x.reserve(0, 0, 7, 0, 1), -1);
        Check.due("9 period below", x.reserve(0, 0, -6, 0, 1), -1);
        Check.due("9 phase odd", x.reserve(0, 0, 8, 1, 1), -1);
        Check.due("9 phase below", x.reserve(0, 0, 8, -2, 1), -1);
        Check.due("9 phase above", x.reserve(0, 0, 8, 8, 1), -1);
        Check.due("9 window below", x.reserve(0, 0, 8, 0, 0), -1);
        Check.due("9 window above", x.reserve(0, 0, 8, 0, 4), -1);
        Check.due("9 -1 ahead of -2", x.reserve(5, 0, 8, 0, 4), -1);
        Check.due("9 link", x.reserve(0, 2, 8, 0, 3), -2);
        Check.due("9 net", x.reserve(3, 0, 8, 0, 3), -2);
        Check.due("9 it was not", x.reserve(0, 0, 40, 38, 3), 0);
        Check.due("9 it was", x.reserve(0, 0, 6, 0, 2), 1);
        x.noise(x.hop(0, -1, 0), 16);
        x.run(1);
        Check.due("9 a frame is open", x.reserved(0, 0, 5), 1);
        x.run(3);
        Check.due("9 got or missed", x.reserved(0, 0, 3) + x.reserved(0, 0, 4), 2);
        x.reserve(0, 0, 6, 0, 2);
        Check.due("9 none is got", x.reserved(0, 0, 3), 0);
        Check.due("9 none is missed", x.reserved(0, 0, 4), 0);
        Check.due("9 none is open", x.reserved(0, 0, 5), 0);
        Check.due("9 not any more", x.reserve(0, 0, 0, -7, 99), 1);
        Check.due("9 is not", x.reserved(0, 0, 0), HopNet.NONE);
        Check.due("9 not any more again", x.reserve(0, 0, 0, 0, 0), 0);
        Check.due("9 -2 with period 0", x.reserve(0, 3, 0, 0, 0), -2);
    }

    private static void reserveEndsAnOpenFrame() {
        HopNet x = nets();
        for (int c = 0; c < 23; c++) {
            x.noise(c, 16);
        }
        x.reserve(0, 1, 12, 0, 3);
        x.run(1);
        Check.due("9 a frame is open", x.reserved(0, 1, 5), 2);
        x.reserve(0, 1, 12, 4, 3);
        Check.due("9 and no more", x.reserved(0, 1, 5), 0);
        Check.due("9 so the other is polled", x.ahead(0, 1), 0);
        x.run(3);
        Check.due("9 missed none", x.reserved(0, 1, 4), 0);
        x.reserve(0, 1, 0, 0, 0);
        Check.due("9 the open one goes too", x.ahead(0, 1), 1);
        x.run(1);
        Check.due("9 so polls go on", x.ahead(0, 1), 0);
    }

    private static void sniff() {
        HopNet x = nets();
        Check.due("10 period 6", x.sniff(0, 0, 6, 1), -1);
        Check.due("10 period 66", x.sniff(0, 0, 66, 1), -1);
        Check.due("10 period odd", x.sniff(0, 0, 9, 1), -1);
        Check.due("10 tries below", x.sniff(0, 0, 8, 0), -1);
        Check.due("10 tries above", x.sniff(0, 0, 8, 5), -1);
        Check.due("10 -1 ahead of -2", x.sniff(0, 9, 8, 5), -1);
        Check.due("10 link", x.sniff(0, 2, 8, 4), -2);
        Check.due("10 net", x.sniff(-1, 0, 8, 4), -2);
        Check.due("10 without", x.sniff(0, 1, 64, 4), 0);
        Check.due("10 was", x.sniff(0, 1, 8, 1), 64);
        x.run(4);
        Check.due("10 awake in one turn of four", x.link(0, 1, 11), 1);
        Check.due("10 not any more", x.sniff(0, 1, 0, 77), 8);
        x.run(4);
        Check.due("10 awake in each", x.link(0, 1, 11), 5);
        Check.due("10 without again", x.sniff(0, 1, 0, 0), 0);
    }

    private static void weigh() {
        HopNet x = nets();
        Check.due("11 below", x.weigh(0, 1, 0), -1);
        Check.due("11 above", x.weigh(0, 1, 5), -1);
        Check.due("11 -1 ahead of -2", x.weigh(0, 7, 5), -1);
        Check.due("11 link", x.weigh(0, 2, 4), -2);
        Check.due("11 net", x.weigh(2, 0, 4), -2);
        Check.due("11 was", x.weigh(0, 1, 4), 1);
        Check.due("11 is", x.weigh(0, 1, 2), 4);
        Check.due("11 told", x.link(0, 1, 16), 2);
    }

    private static void cast() {
        HopNet x = nets();
        Check.due("12 below", x.cast(0, -1), -1);
        Check.due("12 above", x.cast(0, 256), -1);
        Check.due("12 -1 ahead of -2", x.cast(5, 256), -1);
        Check.due("12 net", x.cast(2, 0), -2);
        for (int i = 1; i <= 4; i++) {
            Check.due("12 casts", x.cast(1, 255), i);
        }
        Check.due("12 no room", x.cast(1, 0), -5);
        Check.due("12 the other net has room", x.cast(0, 0), 1);
        Check.due("12 net not there", new HopNet().cast(0, 0), -2);
    }

    private static void map() {
        HopNet x = nets();
        Check.due("13 seven", x.map(0, 127, 1), -1);
        Check.due("13 other than channels", x.map(0, 1 << 23 | 255, 1), -1);
        Check.due("13 below", x.map(0, -1, 1), -1);
        Check.due("13 none", x.map(0, 0, 1), -1);
        Check.due("13 turns below", x.map(0, 255, 0), -1);
        Check.due("13 turns above", x.map(0, 255, 101), -1);
        Check.due("13 -1 ahead of -2", x.map(2, 127, 1), -1);
        Check.due("13 net", x.map(2, 255, 1), -2);
        Check.due("13 net not there", new HopNet().map(0, 255, 1), -2);
        x.run(2);
        Check.due("13 eight", x.map(0, 255, 100), 204);
        Check.due("13 there is one", x.map(0, 511, 1), -4);
        Check.due("13 the other net has none", x.map(1, ALL, 1), 6);
        Check.due("13 next", x.mapOf(0, -1, 1), 255);
        Check.due("13 knows of none", x.alike(0, 0, 2) + x.alike(0, 1, 2), 0);
    }

    private static void adapt() {
        HopNet x = nets();
        Check.due("14 n below", x.adapt(0, 0, 1), -1);
        Check.due("14 n above", x.adapt(0, 100, 1), -1);
        Check.due("14 turns below", x.adapt(0, 1, 0), -1);
        Check.due("14 turns above", x.adapt(0, 1, 101), -1);
        Check.due("14 -1 ahead of -2", x.adapt(5, 1, 101), -1);
        Check.due("14 net", x.adapt(5, 1, 100), -2);
        Check.due("14 none is bad", x.adapt(0, 1, 100), -4);
        int channel = x.hop(0, -1, 0);
        x.noise(channel, 16);
        x.run(1);
        Check.due("14 not often enough", x.adapt(0, 2, 3), -4);
        Check.due("14 without it", x.adapt(0, 1, 3), 8);
        Check.due("14 next", x.mapOf(0, -1, 1), ALL & ~(1 << channel));
        Check.due("14 there is one", x.adapt(0, 1, 3), -4);
    }

    private static void adaptKeepsEight() {
        HopNet x = new HopNet();
        x.radio(4242);
        x.radio(1);
        x.net(0, 0, 0);
        x.join(0, 1);
        x.run(40);
        for (int c = 0; c < 23; c++) {
            x.noise(c, 16);
        }
        x.run(200);
        int bad = x.bad(0, 1);
        Check.that("14 fewer than eight would be left", Integer.bitCount(ALL & ~bad) < 8);
        int due = 0;
        for (int i = 0; i < 8; i++) {
            int best = -1;
            for (int c = 0; c < 23; c++) {
                boolean more = best < 0 || x.sent(0, c, 1) > x.sent(0, best, 1);
                if ((due >> c & 1) == 0 && more) {
                    best = c;
                }
            }
            due |= 1 << best;
        }
        Check.due("14 told", x.adapt(0, 1, 1), x.count(0) + 2);
        Check.due("14 the eight with most answered", x.mapOf(0, -1, 1), due);
    }

    private static void adaptTakesLesserOfLikeOnes() {
        HopNet x = new HopNet();
        x.radio(4242);
        x.radio(1);
        x.net(0, 0, 0);
        x.join(0, 1);
        int due = 0;
        for (int i = 0; i < 3; i++) {
            due |= 1 << x.hop(0, -1, 2 * i);
        }
        x.run(3);
        for (int c = 0; c < 23; c++) {
            x.noise(c, 16);
        }
        x.run(200);
        for (int c = 0; c < 23 && Integer.bitCount(due) < 8; c++) {
            due |= 1 << c;
        }
        x.adapt(0, 1, 1);
        Check.due("14 lesser ones first", x.mapOf(0, -1, 1), due);
    }

    private static void run() {
        HopNet x = nets();
        Check.due("15 below", x.run(0), -1);
        Check.due("15 above", x.run(201), -1);
        x.put(0, 0, 0, 1);
        x.put(0, 0, 1, 2);
        x.put(0, 1, 0, 3);
        x.terms(1, 32);
        Check.due("15 heard", x.run(2), 3);
        Check.due("15 nothing more", x.run(2), 0);
        for (int i = 0; i < 249; i++) {
            x.run(200);
        }
        Check.due("15 time", x.count(0), 99608);
        Check.due("15 too far", x.run(196), -4);
        Check.due("15 -1 ahead of -4", x.run(900), -1);
        Check.due("15 as far as it goes", x.run(195), 0);
        Check.due("15 last time", x.count(0), 99998);
        Check.due("15 no more", x.run(1), -4);
        Check.due("15 drain at the end", x.drain(0, 0), 0);
        x.put(0, 0, 0, 1);
        Check.due("34 not by then", x.drain(0, 0), HopNet.NONE);
        Check.due("35 time", x.would(16, 1, 0), HopNet.NONE);
        Check.due("38 time", x.ahead(0, 1), HopNet.NONE);
        Check.due("42 time", x.bestShare(1), HopNet.NONE);
        Check.due("16 back by one run", x.undo() + x.undo() + x.count(0), 6 + 9 + 99608);
        x.run(194);
        x.put(0, x.ahead(0, 1), 0, 1);
        Check.due("34 in the last turn", x.drain(0, x.ahead(0, 1)), 1);
        x.undo();
        Check.due("35 time left", x.would(16, 1, 0), 0);
        Check.due("35 no time for two", x.would(16, 2, 0), HopNet.NONE);
        Check.due("38 no time for two", x.ahead(0, 2), HopNet.NONE);
        Check.due("42 time left", x.bestShare(1), 0);
        Check.due("42 no time for two", x.bestShare(2), HopNet.NONE);
    }

    private static void undo() {
        HopNet x = new HopNet();
        Check.due("16 none", x.undo(), -4);
        x.radio(1);
        Check.due("16 radio", x.undo(), 0);
        x.radio(1);
        x.radio(2);
        x.net(0, 0, 0);
        Check.due("16 net", x.undo(), 1);
        x.net(0, 0, 0);
        x.join(0, 1);
        Check.due("16 join", x.undo(), 2);
        x.join(0, 1);
        x.leave(0, 0);
        Check.due("16 leave", x.undo(), 3);
        Check.due("16 leave is undone", x.ofNet(0, 2), 1);
        x.noise(3, 3);
        Check.due("16 noise", x.undo(), 4);
        Check.due("16 noise is undone", x.noise(3, 3), 0);
        x.terms(1, 2);
        Check.due("16 terms", x.undo(), 5);
        x.put(0, 0, 0, 3);
        Check.due("16 put", x.undo(), 6);
        Check.due("16 put is undone", x.link(0, 0, 1), 0);
        x.reserve(0, 0, 6, 0, 1);
        Check.due("16 reserve", x.undo(), 7);
        Check.due("16 reserve is undone", x.reserved(0, 0, 0), HopNet.NONE);
        x.map(0, 255, 9);
        Check.due("16 map", x.undo(), 8);
        Check.due("16 map is undone", x.alike(0, 0, 2), 1);
        x.run(7);
        Check.due("16 run", x.undo(), 9);
        Check.due("16 run is undone", x.count(0) + x.link(0, 0, 10) + x.count(10), 0);
        Check.due("16 draws are undone", x.count(2), 1);
        x.sniff(0, 0, 8, 1);
        Check.due("16 sniff", x.undo(), 10);
        x.cast(0, 8);
        Check.due("16 cast", x.undo(), 11);
        x.weigh(0, 0, 4);
        Check.due("16 weigh", x.undo(), 12);
        Check.due("16 weigh is undone", x.link(0, 0, 16), 1);
    }

    private static void undoOfAdaptAndItsDepth() {
        HopNet x = nets();
        x.noise(x.hop(0, -1, 0), 16);
        x.run(1);
        x.adapt(0, 1, 1);
        Check.due("16 adapt", x.undo(), 8);
        Check.due("16 adapt is undone", x.mapOf(0, -1, 2), HopNet.NONE);
        for (int i = 0; i < 12; i++) {
            x.noise(1, i);
            x.noise(99, i);
            Check.due("16 eight are kept", x.count(9), 8);
        }
        for (int i = 0; i < 8; i++) {
            Check.due("16 of noise", x.undo(), 4);
            Check.due("16 kept", x.count(9), 7 - i);
        }
        Check.due("16 no more", x.undo(), -4);
        Check.due("16 the ninth stays", x.noise(1, 0), 3);
        Check.due("16 refusals are not undone", x.count(5), 12);
    }

    private static void lagsComeBackToo() {
        HopNet x = nets();
        x.leave(0, 0);
        x.put(0, 0, 0, 1);
        for (int c = 0; c < 23; c++) {
            x.noise(c, 16);
        }
        x.run(10);
        x.put(0, 0, 0, 2);
        for (int c = 0; c < 23; c++) {
            x.noise(c, 0);
        }
        x.terms(1, 32);
        x.leave(1, 0);
        x.image(1);
        for (int i = 0; i < 2; i++) {
            x.run(2);
            Check.due("18 the lag from when it was put", x.link(0, 0, 14), 10);
            x.back(1);
        }
        for (int i = 0; i < 2; i++) {
            x.run(2);
            Check.due("16 the lag from when it was put", x.link(0, 0, 14), 10);
            x.undo();
        }
    }

    private static void imagesAndBack() {
        HopNet x = nets();
        Check.due("17 below", x.image(-1), -1);
        Check.due("17 above", x.image(2), -1);
        Check.due("18 below", x.back(-1), -1);
        Check.due("18 above", x.back(2), -1);
        Check.due("18 not kept", x.back(1), -4);
        x.put(0, 0, 0, 77);
        Check.due("17 kept", x.image(0), 0);
        int undoable = x.count(9);
        x.run(5);
        Check.due("17 kept too", x.image(1), 10);
        Check.due("17 what can be undone stays", x.count(9), Math.min(8, undoable + 1));
        int refused = x.count(5);
        int heard = x.link(0, 0, 3);
        x.leave(0, 0);
        x.noise(-4, 0);
        Check.due("18 back to the first", x.back(0), 0);
        Check.due("18 nothing can be undone", x.count(9), 0);
        Check.due("18 so it is refused", x.undo(), -4);
        Check.due("18 what is told of refusals stays", x.count(5), refused + 1);
        Check.due("18 the row is back", x.link(0, 0, 1), 1);
        Check.due("18 the seed is back", x.count(2), 1);
        Check.due("18 back to the second", x.back(1), 10);
        Check.due("18 it heard", x.link(0, 0, 3), heard);
        x.run(3);
        Check.due("18 and again", x.back(1), 10);
        Check.due("18 to the other again", x.back(0), 0);
        Check.due("17 over what was", x.run(4) + x.image(0), 1 + 8);
        x.run(1);
        Check.due("18 that one", x.back(0), 8);
    }

    public static void main(String[] args) {
        aNewObject();
        radio();
        net();
        join();
        joinTakesWhatTheNetHolds();
        leave();
        comesBackAsNew();
        upHeardOfOneThatLeft();
        leaveOfPolledPassesTheTurnOn();
        noise();
        terms();
        put();
        reserve();
        reserveEndsAnOpenFrame();
        sniff();
        weigh();
        cast();
        map();
        adapt();
        adaptKeepsEight();
        adaptTakesLesserOfLikeOnes();
        run();
        undo();
        undoOfAdaptAndItsDepth();
        lagsComeBackToo();
        imagesAndBack();
        Check.finish();
    }
}
