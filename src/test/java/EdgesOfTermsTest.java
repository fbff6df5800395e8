/** Terms I and II at their edges: a method for each sentence that names one, which stands above it. */
public final class EdgesOfTermsTest {
    private static final int NONE = HopNet.NONE;
    private static final int ALL = Scene.ALL;

    /** A SEED whose next DRAW is this. */
    private static int seedOfDraw(int draw) {
        int seed = 0;
        while ((1103 * seed + 12345) % 1000003 % 16 != draw) {
            seed++;
        }
        return seed;
    }

    /** The CHANNEL on which NET 0's MASTER sends to a LINK in the next TURN, or NONE. */
    private static int sendsOn(HopNet x) {
        int[] before = new int[23];
        for (int channel = 0; channel < 23; channel++) {
            before[channel] = x.sent(0, channel, 0);
        }
        x.run(1);
        for (int channel = 0; channel < 23; channel++) {
            if (x.sent(0, channel, 0) != before[channel]) {
                return channel;
            }
        }
        return NONE;
    }

    // I: "CHANNELS 0 .. 22", a HOP "modulo 23".
    private static void hopsAreChannels() {
        HopNet x = new HopNet();
        for (int address : new int[] {0, 12345, 268435455}) {
            int seen = 0;
            for (int clock = 0; clock < 2000; clock++) {
                int hop = x.kernel(address, clock);
                Check.that("a channel", hop >= 0 && hop <= 22);
                seen |= 1 << hop;
            }
            Check.due("all of them", seen, ALL);
        }
        Check.due("22 stays", x.kernel(0, 22), 22);
        Check.due("23 goes round", x.kernel(2, 22), 1);
        Check.due("z goes round at 32", x.kernel(10, 22), 0);
        Check.due("31 is the last z", x.kernel(9, 22), 31 - 23);
        Check.due("31, 31 and 13 go round", x.kernel(31 << 19 | 30, 1), 75 - 69);
    }

    // I: "TIME 0 .. 99,998, even (0 at first)."
    private static void timeIsEven() {
        HopNet x = new HopNet();
        Check.due("time at first", x.count(0), 0);
        for (int i = 1; i <= 200; i++) {
            x.run(1);
            Check.due("a turn is two slots", x.count(0), 2 * i);
        }
    }

    // I: "CLOCK of a NET in a slot t: t and OFFSET together", to the greatest of both.
    private static void clockOfANet() {
        for (int offset : new int[] {0, 1, 63, 64, 65534, 65535}) {
            HopNet x = new HopNet();
            x.radio(98765432);
            x.net(1, 0, offset);
            for (int slot : new int[] {0, 1, 199998, 199999}) {
                Check.due("its clock", x.hop(1, NONE, slot), ByHand.kernel(98765432, slot + offset));
            }
        }
    }

    // I: "a HOP that is in it stays; another one becomes the one .. that has (HOP modulo ..) below it".
    private static void hopsByAMap() {
        int[] maps = {255, 0x7f8000, 0x2aaaaa, 0x555555, 511, 0x3fffff, 0x7ffffe, 0x7ff7ff, ALL};
        for (int map : maps) {
            HopNet x = new HopNet();
            x.radio(12345);
            x.net(0, 0, 0);
            x.map(0, map, 1);
            x.run(2);
            int seen = 0;
            for (int slot = 0; slot < 400; slot++) {
                int hop = x.kernel(12345, slot);
                seen |= 1 << hop;
                Check.due("by map " + map, x.hop(0, NONE, slot), ByHand.byMap(hop, map));
            }
            Check.due("all hops were seen", seen, ALL);
        }
        Check.due("by hand: the first of eight", ByHand.byMap(8, 255), 0);
        Check.due("by hand: the last of eight", ByHand.byMap(15, 255), 7);
        Check.due("by hand: round again", ByHand.byMap(0, 0x7f8000), 15);
        Check.due("by hand: 14 of eight above", ByHand.byMap(14, 0x7f8000), 21);
    }

    // I: "of each row of 32 slots from 0 on it is in NET 0 in the first SHARE slots, in NET 1 in the others".
    private static void sharesOfARow() {
        HopNet x = new HopNet();
        for (int i = 0; i < 4; i++) {
            x.radio(i);
        }
        x.net(0, 0, 0);
        x.net(1, 1, 0);
        x.join(0, 2);
        x.join(1, 2);
        x.join(1, 0);
        x.join(0, 3);
        for (int share : new int[] {0, 2, 16, 30, 32}) {
            x.terms(1, share);
            for (int slot : new int[] {0, 1, 2, 15, 16, 29, 30, 31, 32, 33, 34, 63, 64, 199968, 199998, 199999}) {
                int inFirst = slot % 32 < share ? 1 : 0;
                Edge.all("a member of both, share " + share, inFirst, x.isThere(2, 0, slot), 1 - x.isThere(2, 1, slot));
                Edge.all("a master and member, share " + share, inFirst, x.isThere(0, 0, slot),
                        1 - x.isThere(0, 1, slot));
                Edge.all("in one alone", 1, x.isThere(1, 1, slot), x.isThere(3, 0, slot));
                Edge.all("not in it", 0, x.isThere(1, 0, slot), x.isThere(3, 1, slot));
            }
        }
        x.leave(1, 0);
        Edge.all("it shares no more", 1, x.isThere(2, 0, 0), x.isThere(2, 0, 31));
        x.terms(1, 0);
        Edge.all("a share of one that does not", 1, x.isThere(2, 0, 0), x.isThere(2, 0, 31));
    }

    // I: "a MASTER that is not there: its NET does nothing".
    private static void aMasterThatIsAway() {
        HopNet x = new HopNet();
        for (int i = 0; i < 3; i++) {
            x.radio(100 * i);
        }
        x.net(0, 0, 0);
        x.net(1, 1, 0);
        x.join(0, 2);
        x.join(1, 0);
        x.sniff(1, 0, 64, 1);
        x.terms(1, 2);
        x.put(0, 0, 0, 1);
        x.put(0, 0, 0, 2);
        x.run(1);
        x.cast(0, 3);
        int seed = x.count(2);
        Check.due("nothing is heard", x.run(15), 0);
        Check.due("one packet, when it was there", x.count(10), 1);
        Check.due("no draw", x.count(2), seed);
        Check.due("no cast", x.ofNet(0, 5), 0);
        Check.due("chosen once", x.link(0, 0, 10), 1);
        Check.due("polled stays", x.ofNet(0, 3), 0);
        Check.due("the row stays", x.link(0, 0, 1), 1);
        Check.due("it is back in the next row of 32", x.ahead(0, 1), -2);
        x.terms(1, 0);
        Check.due("share 0: never in net 0", x.ahead(0, 1), NONE);
        Check.due("nor at the row's end", x.ahead(0, 16), NONE);
        x.terms(1, 32);
        Check.due("share 32: always", x.ahead(0, 1), -2);
        Check.due("at the row's end too", x.ahead(0, 16), 0);
    }

    // I: "NOISE of a CHANNEL 0 .. 16": not heard "if the DRAW is below that"; DRAWS are 0 .. 15.
    private static void noiseAndDraws() {
        for (int draw = 0; draw < 16; draw++) {
            for (int noise : new int[] {0, 1, 8, 15, 16}) {
                HopNet x = Scene.oneNet(1);
                x.terms(0, seedOfDraw(draw));
                x.noise(x.hop(0, NONE, 0), noise);
                x.run(1);
                Check.due("draw " + draw + " by noise " + noise, x.link(0, 0, 5) == 11 ? 1 : 0, draw < noise ? 1 : 0);
                Check.due("told", x.count(12) >= 1 ? 1 : 0, x.link(0, 0, 5) % 10);
            }
        }
    }

    // I: "SEED s 0 .. 1,000,000 (1 at first)": s "becomes (1103 s and 12345) modulo 1,000,003".
    private static void draws() {
        int[] seeds = {0, 1, 895, 896, 1000000};
        int[] due = {12345, 13448, 999530, 1000633 - 1000003, 12345 - 3 * 1103};
        for (int i = 0; i < seeds.length; i++) {
            HopNet x = Scene.oneNet(1);
            x.terms(0, seeds[i]);
            Scene.noise(x, 16);
            x.run(1);
            Check.due("a draw of " + seeds[i], x.count(2), due[i]);
        }
    }

    // I: "the MAP (all CHANNELS at first), .. ahead .. (all CHANNELS at first), .. or none, POLLED .. (NONE at first)".
    private static void aNetAtFirst() {
        HopNet x = Scene.oneNet(0);
        Check.due("its map", x.mapOf(0, NONE, 0), ALL);
        Check.due("the map ahead", x.mapOf(0, NONE, 3), ALL);
        Check.due("no next map", x.mapOf(0, NONE, 1), 0);
        Check.due("no instant", x.mapOf(0, NONE, 2), NONE);
        Check.due("polled", x.ofNet(0, 3), NONE);
        x.run(5);
        Check.due("polled without links", x.ofNet(0, 3), NONE);
    }

    // I: "its own MAP, NEXT MAP, INSTANT (as the NET has them when it comes), .. KNOWS .. (it does at first)".
    private static void aLinkAtFirst() {
        HopNet x = Scene.oneNet(1);
        x.map(0, 255, 1);
        x.run(2);
        x.map(0, 511, 9);
        x.radio(5);
        x.join(0, 2);
        Check.due("the net's map", x.mapOf(0, 1, 0), 255);
        Check.due("its next map", x.mapOf(0, 1, 1), 511);
        Check.due("its instant", x.mapOf(0, 1, 2), 22);
        Edge.all("alike and known", 1, x.alike(0, 1, 0), x.alike(0, 1, 1), x.alike(0, 1, 2));
        Check.due("so the other is told first", x.ahead(0, 1), 0);
        Check.due("and this one not", x.ahead(0, 2), 1);
        x.run(1);
        Check.due("it was polled next behind the other", x.ahead(0, 1), x.ofNet(0, 3) == 0 ? 1 : 0);
    }

    // I: a LINK's "at first" holds for a MEMBER that left and comes again, too.
    private static void aLinkThatComesAgain() {
        HopNet x = Scene.oneNet(1);
        x.terms(2, 1);
        x.cast(0, 9);
        Scene.put(x, 0, 0, 2);
        Scene.put(x, 0, 1, 2);
        x.weigh(0, 0, 3);
        x.reserve(0, 0, 6, 0, 3);
        x.run(3);
        Scene.put(x, 0, 0, 2);
        Scene.put(x, 0, 1, 2);
        x.run(1);
        Scene.noise(x, 16);
        x.map(0, 255, 50);
        x.run(1);
        x.sniff(0, 0, 64, 1);
        Check.that("it had a life", x.link(0, 0, 3) > 0 && x.link(0, 0, 5) == 11
                && x.link(0, 0, 10) > 3 && x.link(0, 0, 12) == 1 && x.link(0, 0, 14) > 0 && x.link(0, 0, 15) > 0);
        x.leave(0, 0);
        x.join(0, 1);
        int[] due = {1, 0, 0, 0, 0, 0, 0, 1, 0, 1, 0, 0, 0, 1, 0, 0, 1};
        for (int what = 0; what < due.length; what++) {
            Check.due("at first " + what, x.link(0, 0, what), due[what]);
        }
        Edge.all("no hash", 0, x.hash(0, 0, 0), x.hash(0, 0, 1), x.hash(0, 0, 2));
        Edge.all("not reserved", NONE, x.reserved(0, 0, 0), x.reserved(0, 0, 3), x.reserved(0, 0, 5));
        Edge.all("awake", x.count(0), x.ready(0, 0));
        Edge.all("known", 1, x.alike(0, 0, 2));
        Edge.all("it came now", 0, x.quiet(0, 1));
        Scene.noise(x, 0);
        Scene.put(x, 0, 1, 2);
        Check.due("its first packet takes no number of up away", x.run(1), 1);
        Edge.all("both are there", 2, x.link(0, 0, 2));
        Edge.all("its sniff was none", 0, x.sniff(0, 0, 0, 0));
    }

    // I: "Rows DOWN, UP of NUMBERS .. 8 at most": full rows come through, once and in order.
    private static void fullRowsInOrder() {
        HopNet x = Scene.oneNet(1);
        int hash = 0;
        for (int i = 0; i < 8; i++) {
            x.put(0, 0, 0, 255 - 30 * i);
            x.put(0, 0, 1, 255 - 30 * i);
            hash = 31 * hash + 256 - 30 * i;
        }
        Check.due("all were heard", x.run(8), 16);
        Check.due("down is empty", x.link(0, 0, 1), 0);
        Check.due("up has the last one yet", x.link(0, 0, 2), 1);
        Check.due("an empty row: nothing is heard", x.run(1), 0);
        Check.due("up is empty", x.link(0, 0, 2), 0);
        Edge.all("in order", hash, x.hash(0, 0, 0), x.hash(0, 0, 1));
        Edge.all("eight each", 8, x.link(0, 0, 3), x.link(0, 0, 4));
        Check.due("nothing more", x.run(50), 0);
    }

    // I: "a BIT of who sends (0 at first), the BIT heard last of who hears (1 at first)": it goes 0, 1, 0 ..
    private static void bitsGoRound() {
        HopNet x = Scene.oneNet(1);
        Scene.put(x, 0, 0, 5);
        Scene.put(x, 0, 1, 5);
        for (int i = 0; i < 5; i++) {
            Check.due("down's sender", x.link(0, 0, 6), i % 2);
            Check.due("down heard last", x.link(0, 0, 7), (i + 1) % 2);
            Check.due("up's sender", x.link(0, 0, 8), Math.max(0, i - 1) % 2);
            Check.due("up heard last", x.link(0, 0, 9), (i + 1) % 2);
            x.run(1);
        }
        x.run(3);
        Edge.all("both end alike", 1, x.link(0, 0, 6), x.link(0, 0, 8));
        Edge.all("heard last", 0, x.link(0, 0, 7), x.link(0, 0, 9));
    }

    // I: "LAG .. (0: at once)".
    private static void lags() {
        HopNet x = Scene.oneNet(1);
        x.run(4);
        x.put(0, 0, 0, 1);
        x.run(1);
        Check.due("down at once", x.link(0, 0, 14), 0);
        Check.due("it was taken away", x.link(0, 0, 1), 0);
        x.put(0, 0, 1, 1);
        x.run(1);
        Check.due("up is not taken away yet", x.link(0, 0, 15), 0);
        x.run(1);
        Check.due("up a turn later", x.link(0, 0, 15), 1);
        Scene.put(x, 0, 0, 8);
        x.run(8);
        Check.due("the last of a full row", x.link(0, 0, 14), 7);
        x.put(0, 0, 0, 1);
        x.run(1);
        Check.due("the greatest stays", x.link(0, 0, 14), 7);
    }

    // I: "how many TURNS lie between when it was put .. and the one in which it is taken away", of each NUMBER.
    private static void lagsOfNumbersPutByAndBy() {
        HopNet x = Scene.oneNet(1);
        Scene.noise(x, 16);
        x.put(0, 0, 0, 1);
        x.put(0, 0, 1, 1);
        x.run(3);
        x.put(0, 0, 0, 2);
        x.put(0, 0, 1, 2);
        x.run(7);
        Scene.noise(x, 0);
        x.run(1);
        Check.due("the first of down", x.link(0, 0, 14), 10);
        x.run(1);
        Check.due("the second of down lagged less", x.link(0, 0, 14), 10);
        Check.due("the first of up", x.link(0, 0, 15), 11);
        Scene.put(x, 0, 0, 1);
        Scene.noise(x, 16);
        x.run(20);
        x.put(0, 0, 0, 3);
        Scene.noise(x, 0);
        x.run(2);
        Check.due("one that lagged more", x.link(0, 0, 14), 20);
        Check.due("up too", x.link(0, 0, 15), 29);
    }

    // I: "LAG .. (or PASSED)": a PASSED NUMBER's LAG is from then on, not from when it was put.
    private static void lagOfAPassedNumber() {
        HopNet x = bridge();
        x.put(0, 0, 0, 200);
        x.terms(1, 0);
        x.run(16);
        x.terms(1, 2);
        // Passed at 32, heard at 34, taken away at 36.
        x.run(2);
        Check.due("passed", x.count(15), 1);
        x.run(1);
        Check.due("lag of down", x.link(0, 0, 14), 16);
        Check.due("lag of up", x.link(1, 0, 15), 2);
    }

    // I: "In each TURN whose TIME modulo PERIOD is PHASE a FRAME comes".
    private static void framesCome() {
        int[][] all = {{6, 0}, {6, 4}, {40, 0}, {40, 38}, {14, 12}};
        for (int[] r : all) {
            HopNet x = Scene.oneNet(1);
            x.reserve(0, 0, r[0], r[1], 1);
            int due = 0;
            for (int time = 0; time < 240; time += 2) {
                x.run(1);
                due += time % r[0] == r[1] ? 1 : 0;
                Check.due("period " + r[0] + ", phase " + r[1], x.reserved(0, 0, 3), due);
            }
            Check.due("none was missed", x.reserved(0, 0, 4), 0);
        }
        HopNet y = Scene.oneNet(1);
        y.run(2);
        y.reserve(0, 0, 6, 4, 1);
        y.run(1);
        Check.due("it comes in the very turn behind reserve", y.reserved(0, 0, 3), 1);
    }

    // I: "it is open, till it is ANSWERED (GOT), or WINDOW TURNS are over, that one among them (MISSED)".
    private static void windows() {
        for (int window = 1; window <= 3; window++) {
            HopNet x = Scene.oneNet(1);
            Scene.noise(x, 16);
            x.reserve(0, 0, 6, 0, window);
            int missed = 0;
            for (int time = 0; time < 60; time += 2) {
                x.run(1);
                int turn = time % 6 / 2 + 1;
                missed += turn == window ? 1 : 0;
                Check.due("missed, window " + window, x.reserved(0, 0, 4), missed);
                Check.due("left, window " + window, x.reserved(0, 0, 5), Math.max(0, window - turn));
            }
            Check.due("none was got", x.reserved(0, 0, 3), 0);
        }
    }

    // I: a FRAME may be GOT in the last TURN of its WINDOW; then it is not MISSED.
    private static void gotInTheLastTurn() {
        HopNet x = Scene.oneNet(1);
        x.reserve(0, 0, 8, 0, 3);
        Scene.noise(x, 16);
        x.run(2);
        Scene.noise(x, 0);
        x.run(1);
        Edge.all("got", 1, x.reserved(0, 0, 3));
        Edge.all("not missed, none open", 0, x.reserved(0, 0, 4), x.reserved(0, 0, 5));
        x.run(1);
        Edge.all("got once", 1, x.reserved(0, 0, 3));
        Edge.all("not missed later", 0, x.reserved(0, 0, 4));
    }

    // I: "AWAKE in TURNS the TIME of which modulo PERIOD is below twice TRIES; without it always."
    private static void awake() {
        int[][] all = {{8, 1}, {8, 3}, {8, 4}, {64, 1}, {64, 4}, {10, 4}};
        for (int[] s : all) {
            HopNet x = Scene.oneNet(1);
            x.sniff(0, 0, s[0], s[1]);
            int turns = 0;
            for (int time = 0; time < 160; time += 2) {
                boolean isAwake = time % s[0] < 2 * s[1];
                Check.due("ready now", x.ready(0, 0) == time ? 1 : 0, isAwake ? 1 : 0);
                Check.due("chosen", x.ahead(0, 1), isAwake ? 0 : NONE);
                x.run(1);
                turns += isAwake ? 1 : 0;
                Check.due("period " + s[0] + ", tries " + s[1], x.link(0, 0, 11), turns);
            }
        }
    }

    // I: "READY is a LINK whose MEMBER is there and AWAKE."
    private static void readyIsThereAndAwake() {
        HopNet x = Scene.twoNets();
        x.terms(1, 4);
        x.sniff(0, 0, 8, 1);
        int turns = 0;
        for (int time = 0; time < 128; time += 2) {
            boolean isReady = time % 32 < 4 && time % 8 < 2;
            turns += isReady ? 1 : 0;
            x.run(1);
            Check.due("both", x.link(0, 0, 11), turns);
        }
        Check.due("at 0, 32, 64, 96", turns, 4);
    }

    // I: "CASTS .. a BIT (0 at first); of a LINK the BIT of a CAST heard last (1 at first)."
    private static void bitsOfCasts() {
        HopNet x = Scene.oneNet(1);
        x.radio(4);
        x.terms(2, 1);
        for (int i = 0; i < 4; i++) {
            x.cast(0, i);
        }
        for (int i = 0; i < 4; i++) {
            Check.due("the net's", x.ofNet(0, 6), i % 2);
            Check.due("the link's", x.link(0, 0, 13), 1 - i % 2);
            x.run(1);
            Check.due("heard", x.link(0, 0, 12), i + 1);
        }
        x.cast(0, 9);
        x.run(1);
        x.join(0, 2);
        Check.due("one that comes has 1", x.link(0, 1, 13), 1);
        x.cast(0, 10);
        x.run(1);
        Check.due("the net's was 1: it did not hear it", x.link(0, 1, 12), 0);
        Check.due("the other did", x.link(0, 0, 12), 6);
        x.cast(0, 11);
        x.run(1);
        Check.due("but the next one", x.link(0, 1, 12), 1);
    }

    // I: "CASTS of a NET: a row of NUMBERS 0 .. 255, 4 at most": a full row goes out in order.
    private static void fullCastsInOrder() {
        HopNet x = Scene.oneNet(1);
        int hash = 0;
        for (int number : new int[] {255, 0, 77, 128}) {
            x.cast(0, number);
            hash = 31 * hash + number + 1;
        }
        for (int i = 1; i <= 4; i++) {
            x.run(2);
            Check.due("one each two turns", x.link(0, 0, 12), i);
        }
        Check.due("in order", x.hash(0, 0, 2), hash);
        Check.due("none is left", x.ofNet(0, 4), 0);
    }

    // I: "REPEATS 1 .. 4 (2 at first)": "behind REPEATS such TURNS, heard or not, the CAST goes".
    private static void repeats() {
        for (int repeats = 1; repeats <= 4; repeats++) {
            for (int noise = 0; noise <= 16; noise += 16) {
                HopNet x = Scene.oneNet(1);
                if (repeats != 2) {
                    x.terms(2, repeats);
                }
                Scene.noise(x, noise);
                x.cast(0, 5);
                x.cast(0, 6);
                for (int turn = 1; turn <= 2 * repeats; turn++) {
                    x.run(1);
                    Check.due("left", x.ofNet(0, 4), 2 - turn / repeats);
                    Check.due("sent", x.ofNet(0, 5), turn % repeats);
                    Check.due("bit", x.ofNet(0, 6), turn / repeats % 2);
                    Check.due("heard", x.link(0, 0, 12), noise > 0 ? 0 : (turn + repeats - 1) / repeats);
                    Check.due("sent in all", x.count(17), turn);
                }
                Check.due("then polls", x.ahead(0, 1), 0);
            }
        }
    }

    // II: "behind REPEATS such TURNS": fewer REPEATS than it was sent end it with the next TURN.
    private static void fewerRepeats() {
        HopNet x = Scene.oneNet(1);
        x.terms(2, 4);
        x.cast(0, 5);
        x.run(3);
        x.terms(2, 1);
        Check.due("it is there yet", x.ofNet(0, 4), 1);
        x.run(1);
        Check.due("it goes", x.ofNet(0, 4), 0);
        Check.due("sent four times", x.count(17), 4);
    }

    /** RADIO 2 is MEMBER of both NETS, in which nobody else is but the MASTERS. */
    private static HopNet bridge() {
        HopNet x = new HopNet();
        x.radio(10);
        x.radio(20);
        x.radio(30);
        x.net(0, 0, 0);
        x.net(1, 1, 5);
        x.join(0, 2);
        x.join(1, 2);
        return x;
    }

    // I: "a NUMBER of 128 or more that is HEARD of DOWN .. comes behind UP of its other one, is PASSED".
    private static void passedFrom128On() {
        int[] numbers = {0, 127, 128, 255};
        for (int net = 0; net < 2; net++) {
            for (int number : numbers) {
                HopNet x = bridge();
                x.terms(1, net == 0 ? 32 : 0);
                x.put(net, 0, 0, number);
                x.put(1 - net, 0, 1, 7);
                x.run(1);
                int passed = number >= 128 ? 1 : 0;
                Check.due("heard", x.link(net, 0, 3), 1);
                Check.due("passed of net " + net + ", " + number, x.count(15), passed);
                Check.due("behind up of the other", x.link(1 - net, 0, 2), 1 + passed);
                Check.due("not behind its own", x.link(net, 0, 2), 0);
                x.terms(1, net == 0 ? 0 : 32);
                x.run(2);
                Check.due("as it was", x.hash(1 - net, 0, 1), passed == 1 ? 31 * 8 + number + 1 : 8);
            }
        }
    }

    // I: "if that has 8, it is DROPPED".
    private static void droppedAtEight() {
        for (int full = 6; full <= 8; full++) {
            HopNet x = bridge();
            for (int i = 0; i < full; i++) {
                x.put(1, 0, 1, i);
            }
            x.put(0, 0, 0, 128);
            x.run(1);
            Check.due("passed", x.count(15), full < 8 ? 1 : 0);
            Check.due("dropped", x.count(16), full < 8 ? 0 : 1);
            Check.due("its row", x.link(1, 0, 2), Math.min(8, full + 1));
            Check.due("heard all the same", x.link(0, 0, 3), 1);
        }
    }

    // I: PASSED is what is "HEARD of DOWN" by "a RADIO that is MEMBER of both NETS": nothing else.
    private static void whatIsNotPassed() {
        HopNet x = bridge();
        x.put(0, 0, 1, 200);
        x.run(2);
        Check.due("up is heard", x.link(0, 0, 4), 1);
        Check.due("and not passed", x.count(15), 0);
        x.cast(0, 200);
        x.run(2);
        Check.due("a cast is heard", x.link(0, 0, 12), 1);
        Check.due("and not passed", x.count(15) + x.link(1, 0, 2), 0);
        HopNet y = new HopNet();
        y.radio(1);
        y.radio(2);
        y.radio(3);
        y.net(0, 0, 0);
        y.net(1, 1, 0);
        y.join(0, 1);
        y.join(1, 2);
        y.put(0, 0, 0, 200);
        y.run(1);
        Check.due("a master of the other hears it", y.link(0, 0, 3), 1);
        Check.due("and does not pass it on", y.count(15) + y.count(16), 0);
        x.put(0, 0, 0, 201);
        x.leave(1, 0);
        x.run(1);
        Check.due("one that left the other net passes nothing", x.count(15) + x.count(16), 0);
    }

    // I: a NUMBER that comes again with the BIT heard last is not HEARD again, nor PASSED again.
    private static void notPassedTwice() {
        HopNet x = bridge();
        x.terms(1, 32);
        x.put(0, 0, 0, 200);
        x.noise(x.hop(0, NONE, 1), 16);
        x.run(1);
        Check.due("the answer is lost", x.link(0, 0, 5), 21);
        Scene.noise(x, 0);
        x.run(1);
        Check.due("passed once", x.count(15), 1);
        Check.due("heard once", x.link(0, 0, 3), 1);
        Check.due("taken away", x.link(0, 0, 1), 0);
    }

    // II (a): "a NEXT MAP the INSTANT of which is TIME or less is the MAP then, there is no NEXT one."
    private static void mapsChangeAtTheirInstant() {
        HopNet x = Scene.oneNet(1);
        x.map(0, 255, 2);
        x.run(2);
        Edge.all("not ahead of its turn", ALL, x.mapOf(0, NONE, 0), x.mapOf(0, 0, 0));
        Edge.all("next", 255, x.mapOf(0, NONE, 1), x.mapOf(0, 0, 1));
        Edge.all("instant", 4, x.count(0), x.mapOf(0, NONE, 2), x.mapOf(0, 0, 2));
        Edge.all("no map has changed", 0, x.count(19));
        Check.due("its turn is by the new one", sendsOn(x), ByHand.byMap(ByHand.kernel(90000, 4), 255));
        Edge.all("the map", 255, x.mapOf(0, NONE, 0), x.mapOf(0, 0, 0));
        Edge.all("no next one", 0, x.mapOf(0, NONE, 1), x.mapOf(0, 0, 1));
        Edge.all("no instant", NONE, x.mapOf(0, NONE, 2), x.mapOf(0, 0, 2));
        Edge.all("the map ahead", ALL, x.mapOf(0, NONE, 3));
        Edge.all("one map of a net has changed", 1, x.count(19));
    }

    // II (a): "Of each NET, then of each of its LINKS": one that sleeps or is away changes too.
    private static void mapsChangeOfThoseAway() {
        HopNet x = Scene.oneNet(1);
        x.map(0, 255, 3);
        x.run(1);
        x.sniff(0, 0, 64, 1);
        x.run(3);
        Edge.all("one that sleeps", 255, x.mapOf(0, 0, 0), x.mapOf(0, NONE, 0));
        HopNet y = Scene.twoNets();
        y.join(0, 3);
        y.terms(1, 32);
        y.map(1, 255, 1);
        y.run(2);
        Check.due("a net whose master is away", y.mapOf(1, NONE, 0), 255);
        Check.due("told", y.count(19), 1);
        Check.due("its link did not hear of it", y.mapOf(1, 0, 0), ALL);
    }

    // II (b): "FRAMES come", for one whose MASTER is away, or that is not READY, too.
    private static void framesComeToThoseAway() {
        HopNet x = Scene.twoNets();
        x.terms(1, 0);
        x.reserve(0, 0, 6, 0, 1);
        x.reserve(0, 1, 6, 2, 3);
        x.sniff(0, 1, 64, 1);
        x.run(1);
        Check.due("away: missed at once", x.reserved(0, 0, 4), 1);
        x.run(3);
        Check.due("asleep: missed", x.reserved(0, 1, 4), 1);
        Check.due("none was chosen by it", x.link(0, 0, 10), 0);
    }

    // II (c): an open FRAME, then one not KNOWN, then CASTS, then polls; each time "the first one".
    private static void theOrderOfChoice() {
        HopNet x = Scene.oneNet(4);
        x.map(0, 255, 50);
        x.cast(0, 1);
        x.reserve(0, 3, 40, 0, 1);
        x.reserve(0, 2, 40, 0, 1);
        int[] due = {2, 0, 1, 3, -2, -2, 0, 1, 2, 3, 0};
        for (int i = 0; i < due.length; i++) {
            Check.due("turn " + i, x.ahead(0, i + 1), due[i]);
        }
        x.reserve(0, 3, 40, 0, 2);
        int[] longer = {2, 3, 0, 1, -2, -2, 0};
        for (int i = 0; i < longer.length; i++) {
            Check.due("a longer window, turn " + i, x.ahead(0, i + 1), longer[i]);
        }
    }

    // II (c): "the first one that is READY and whose FRAME is open": LINK 0 and the last LINK, too.
    private static void framesOfTheOuterLinks() {
        for (int link = 0; link < 4; link += 3) {
            HopNet x = Scene.oneNet(4);
            x.run(1);
            x.reserve(0, link, 40, 4, 1);
            Check.due("a poll", x.ahead(0, 1), 1);
            Check.due("the frame of " + link, x.ahead(0, 2), link);
            Check.due("polls go on", x.ahead(0, 3), 2);
        }
    }

    // II (c): LINKS that there are: one that left with its FRAME open, or of which was not KNOWN, is not CHOSEN.
    private static void oneThatLeftIsNotChosen() {
        HopNet x = Scene.oneNet(2);
        Scene.noise(x, 16);
        x.reserve(0, 1, 12, 0, 3);
        x.run(1);
        Check.due("its frame is open", x.reserved(0, 1, 5), 2);
        x.leave(0, 1);
        x.run(1);
        Check.due("the other is polled", x.link(0, 0, 10), 1);
        HopNet y = Scene.oneNet(2);
        y.map(0, 255, 50);
        y.run(1);
        Check.due("the second is not known", y.alike(0, 1, 2), 0);
        y.leave(0, 1);
        y.run(1);
        Check.due("the first is polled", y.link(0, 0, 10), 2);
        Check.due("polled", y.ofNet(0, 3), 0);
        y.join(0, 2);
        Check.due("it knows of it when it comes again", y.alike(0, 1, 2), 1);
    }

    // II (c): each only "that is READY".
    private static void onlyThoseThatAreReady() {
        HopNet x = Scene.oneNet(3);
        x.run(1);
        for (int link = 0; link < 2; link++) {
            x.sniff(0, link, 64, 1);
        }
        x.reserve(0, 0, 6, 2, 3);
        Check.due("an open frame of one that sleeps", x.ahead(0, 1), 2);
        x.map(0, 255, 50);
        Check.due("the first not known that is awake", x.ahead(0, 1), 2);
        x.cast(0, 1);
        Check.due("the others are not known, but sleep: casts", x.ahead(0, 2), -2);
        Check.due("then polls pass over them", x.ahead(0, 4), 2);
    }

    // II (c): "fewer times in a row than its WEIGHT", 1 .. 4; "next behind POLLED, round".
    private static void rowsOfPolls() {
        for (int weight = 1; weight <= 4; weight++) {
            HopNet x = Scene.oneNet(4);
            x.weigh(0, 3, weight);
            for (int i = 0; i < 20; i++) {
                int inRound = i % (3 + weight);
                Check.due("weight " + weight + ", turn " + i, x.ahead(0, i + 1), Math.min(3, inRound));
            }
            x.run(3 + weight);
            Check.due("polled", x.ofNet(0, 3), 3);
            x.run(1);
            Check.due("round", x.ofNet(0, 3), 0);
        }
    }

    // II (c): "at the last POLLED itself"; and a WEIGHT that is made less ends the row.
    private static void polledItselfAtTheLast() {
        HopNet x = Scene.oneNet(2);
        x.run(1);
        x.sniff(0, 1, 64, 1);
        for (int i = 1; i <= 10; i++) {
            Check.due("no other is ready", x.ahead(0, i), 0);
        }
        HopNet y = Scene.oneNet(2);
        y.weigh(0, 0, 4);
        y.run(2);
        Check.due("two of four", y.ahead(0, 1), 0);
        y.weigh(0, 0, 2);
        Check.due("two of two", y.ahead(0, 1), 1);
        y.weigh(0, 0, 3);
        Check.due("two of three", y.ahead(0, 1), 0);
        Check.due("then the next", y.ahead(0, 2), 1);
    }

    // II (c): "None: the NET does nothing."
    private static void noneIsReady() {
        HopNet x = Scene.oneNet(2);
        x.run(1);
        x.sniff(0, 0, 64, 1);
        x.sniff(0, 1, 64, 1);
        x.put(0, 0, 0, 1);
        int seed = x.count(2);
        Check.due("none", x.ahead(0, 1), NONE);
        Check.due("nothing is heard", x.run(10), 0);
        Check.due("no draw", x.count(2), seed);
        Check.due("no packet", x.count(10), 1);
        Check.due("polled stays", x.ofNet(0, 3), 0);
        Check.due("no links at all", Scene.oneNet(0).ahead(0, 200), NONE);
    }

    // II (c): FRAMES, tellings and CASTS leave POLLED as it is.
    private static void onlyPollsMovePolled() {
        HopNet x = Scene.oneNet(3);
        x.reserve(0, 2, 40, 0, 1);
        x.run(1);
        Check.due("a frame", x.ofNet(0, 3), NONE);
        x.map(0, 255, 50);
        x.run(3);
        Check.due("tellings", x.ofNet(0, 3), NONE);
        x.cast(0, 1);
        x.run(2);
        Check.due("casts", x.ofNet(0, 3), NONE);
        x.run(1);
        Check.due("a poll", x.ofNet(0, 3), 0);
        Check.due("chosen by frame, telling", x.link(0, 2, 10), 2);
    }

    // II (d): "to a LINK of which it does not KNOW, if there is no NEXT MAP and TIME modulo 4 is 2, by the MAP ahead".
    private static void theMapAhead() {
        HopNet x = Scene.oneNet(1);
        Scene.noise(x, 16);
        x.map(0, 0x7f8000, 3);
        boolean differs = false;
        for (int time = 0; time < 60; time += 2) {
            int hop = ByHand.kernel(90000, time);
            int map = time < 6 || time % 4 == 2 ? ALL : 0x7f8000;
            Check.due("not known, at " + time, sendsOn(x), ByHand.byMap(hop, map));
            differs |= time > 6 && time % 4 == 2 && ByHand.byMap(hop, 0x7f8000) != hop;
        }
        Check.that("it is another channel", differs);
        x.map(0, 255, 20);
        differs = false;
        for (int time = 60; time < 100; time += 2) {
            int hop = ByHand.kernel(90000, time);
            Check.due("there is a next map, at " + time, sendsOn(x), ByHand.byMap(hop, 0x7f8000));
            differs |= time % 4 == 2 && ByHand.byMap(hop, 0x7f8000) != hop;
        }
        Check.that("it would be another channel", differs);
        for (int time = 100; time < 140; time += 2) {
            int hop = ByHand.kernel(90000, time);
            Check.due("the one ahead now, at " + time, sendsOn(x), ByHand.byMap(hop, time % 4 == 2 ? 0x7f8000 : 255));
        }
    }

    // II (d): to a LINK of which the MASTER KNOWS it is the NET's MAP, whatever TIME is.
    private static void theMapOfOneKnown() {
        HopNet x = Scene.oneNet(1);
        x.map(0, 0x7f8000, 1);
        x.run(1);
        for (int time = 2; time < 60; time += 2) {
            Check.due("known, at " + time, sendsOn(x), ByHand.byMap(ByHand.kernel(90000, time), 0x7f8000));
        }
        Check.due("all were answered", x.count(11), 30);
    }

    // II (d): "NET by NET there is a DRAW": NET 0's is the first.
    private static void drawsNetByNet() {
        int seed = 0;
        boolean found = false;
        int second = 0;
        while (!found) {
            seed++;
            int s = (1103 * seed + 12345) % 1000003;
            second = (int) ((1103L * s + 12345) % 1000003) % 16;
            found = s % 16 < second;
        }
        HopNet x = Scene.twoNets();
        x.terms(1, 0);
        x.leave(0, 0);
        Check.that("on two channels", x.hop(0, NONE, 0) != x.hop(1, NONE, 0));
        x.noise(x.hop(0, NONE, 0), second);
        x.noise(x.hop(1, NONE, 0), second);
        x.terms(0, seed);
        x.run(1);
        Check.due("net 0's is below", x.link(0, 0, 5), 11);
        Check.that("net 1's is not", x.link(1, 0, 5) != 11);
    }

    // II (d), (e): "there is a DRAW", "NET by NET a DRAW": one for each packet and answer, none for silence.
    private static void aDrawForEachPacketAndAnswer() {
        HopNet x = Scene.twoNets();
        Scene.noise(x, 5);
        x.sniff(0, 1, 8, 2);
        long seed = 1;
        int draws = 0;
        for (int i = 0; i < 60; i++) {
            if (i % 10 == 0) {
                x.cast(i / 10 % 2, i);
            }
            x.run(1);
            for (; draws < x.count(10) + x.count(11); draws++) {
                seed = (1103 * seed + 12345) % 1000003;
            }
            Check.due("draws so far", x.count(2), seed);
        }
        int lost = x.count(12) + x.count(13) + x.count(14);
        Check.that("some were lost, some were not", lost > 0 && lost < draws);
    }

    /** Goes on, nothing being heard, to a TIME (modulo 4: 0) at which LINK 0 of NET 0 is in step so, or not. */
    private static void runUnderNoiseTo(HopNet x, boolean packet, boolean answer) {
        Scene.noise(x, 16);
        for (int i = 0; i < 300; i++) {
            int now = x.count(0);
            boolean first = x.hop(0, 0, now) == x.hop(0, NONE, now);
            boolean second = x.hop(0, 0, now + 1) == x.hop(0, NONE, now + 1);
            if (now % 4 == 0 && first == packet && second == answer) {
                Scene.noise(x, 0);
                return;
            }
            x.run(1);
        }
        Check.that("a time is found", false);
    }

    /** NET 0 has a NEXT MAP; its LINK missed the MAP ahead of that, so that it is in step now and then. */
    private static HopNet oneMapBehind() {
        HopNet x = Scene.oneNet(1);
        Scene.noise(x, 16);
        x.map(0, 0x7ffff, 1);
        x.run(2);
        x.map(0, 255, 100);
        return x;
    }

    /** Two NETS of MASTERS that hop alike, with a LINK each. */
    private static HopNet twinsWithLinks() {
        HopNet x = new HopNet();
        for (int i = 0; i < 4; i++) {
            x.radio(777);
        }
        x.net(0, 0, 0);
        x.net(1, 1, 0);
        x.join(0, 2);
        x.join(1, 3);
        return x;
    }

    // II (d): "by 1 NOISE ..; or else 2 CLASH ..; or else 3 STEP".
    private static void theOrderOfLosses() {
        HopNet x = twinsWithLinks();
        Scene.noise(x, 16);
        x.map(0, 255, 1);
        x.map(1, 255, 1);
        x.run(2);
        int lost = x.count(12);
        Check.due("by noise alone", lost, 4);
        Check.due("noise ahead of clash", x.count(13), 0);
        Scene.noise(x, 0);
        boolean outOfStep = false;
        for (int i = 0; i < 10; i++) {
            int now = x.count(0);
            outOfStep |= now % 4 == 0 && x.hop(0, 0, now) != x.hop(0, NONE, now);
            x.run(1);
            Edge.all("clash ahead of step", 12, x.link(0, 0, 5), x.link(1, 0, 5));
        }
        Check.that("out of step, too", outOfStep);
        Check.due("told as clashes", x.count(13), 20);
        Check.due("none as step", x.count(14), 0);
        x.leave(1, 0);
        runUnderNoiseTo(x, false, false);
        Check.due("time modulo 4 is 0: by the map now", x.count(0) % 4, 0);
        x.run(1);
        Check.due("without the other it is step", x.link(0, 0, 5), 13);
        Check.due("told as step", x.count(14), 1);
    }

    private static void tallies(String what, HopNet x, int... due) {
        for (int i = 0; i < due.length; i++) {
            Check.due(what + ", count " + (10 + i), x.count(10 + i), due[i]);
        }
    }

    // 44: 10 .. 17 are each their own: what raises one leaves the others.
    private static void eachTallyIsItsOwn() {
        HopNet quiet = Scene.oneNet(1);
        quiet.run(1);
        tallies("a packet and its answer", quiet, 1, 1, 0, 0, 0, 0, 0, 0);
        Scene.noise(quiet, 16);
        quiet.run(1);
        tallies("lost by noise", quiet, 2, 1, 1, 0, 0, 0, 0, 0);
        HopNet twins = twinsWithLinks();
        twins.run(1);
        tallies("lost by clash", twins, 2, 0, 0, 2, 0, 0, 0, 0);
        HopNet behind = oneMapBehind();
        runUnderNoiseTo(behind, false, false);
        int lost = behind.count(12);
        behind.run(1);
        tallies("lost by step", behind, lost + 1, 0, lost, 0, 1, 0, 0, 0);
        HopNet passes = bridge();
        passes.put(0, 0, 0, 128);
        passes.run(1);
        tallies("passed", passes, 1, 1, 0, 0, 0, 1, 0, 0);
        for (int i = 0; i < 7; i++) {
            passes.put(1, 0, 1, i);
        }
        passes.put(0, 0, 0, 128);
        passes.run(1);
        tallies("dropped", passes, 2, 2, 0, 0, 0, 1, 1, 0);
        passes.cast(0, 1);
        passes.run(1);
        tallies("cast", passes, 3, 2, 0, 0, 0, 1, 1, 1);
        Check.due("no new map", passes.count(19), 0);
        passes.map(0, 255, 1);
        passes.map(1, 255, 1);
        passes.run(2);
        Check.due("two new maps", passes.count(19), 2);
        Check.due("casts as they were", passes.count(17), 2);
    }

    // II (d): "2 CLASH, if the other NET sends on that CHANNEL in this slot": not if it sends nothing.
    private static void noClashWithOneThatIsSilent() {
        HopNet x = twinsWithLinks();
        x.sniff(1, 0, 64, 1);
        x.put(0, 0, 0, 1);
        Check.due("both send", x.run(1), 0);
        Check.due("clash", x.link(0, 0, 5), 12);
        Check.due("the other is silent", x.run(1), 1);
        Check.due("no clash", x.link(0, 0, 5), 0);
        x.cast(1, 1);
        x.run(1);
        Check.due("a cast of the other clashes too", x.link(0, 0, 5), 12);
        Check.due("and is lost", x.link(1, 0, 12), 0);
    }

    // II (d): a CAST "is heard by each LINK that is READY": one that sleeps does not hear it.
    private static void castsToThoseAwake() {
        HopNet x = Scene.oneNet(4);
        x.terms(2, 1);
        x.sniff(0, 0, 8, 1);
        x.sniff(0, 3, 8, 2);
        for (int i = 0; i < 4; i++) {
            x.cast(0, i);
        }
        int[] first = {1, 1, 1, 1};
        int[] third = {1, 3, 3, 2};
        x.run(1);
        for (int link = 0; link < 4; link++) {
            Check.due("all are awake", x.link(0, link, 12), first[link]);
        }
        x.run(2);
        for (int link = 0; link < 4; link++) {
            Check.due("link " + link, x.link(0, link, 12), third[link]);
        }
    }

    // II (d): ".. and whose MEMBER's CHANNEL is that"; one out of step is not told as STEP.
    private static void castsToThoseInStep() {
        HopNet x = oneMapBehind();
        runUnderNoiseTo(x, true, true);
        x.run(1);
        Edge.all("known, but by another map yet", 10, x.alike(0, 0, 2) * 10 + x.alike(0, 0, 1));
        x.terms(2, 1);
        int heard = 0;
        boolean[] seen = new boolean[2];
        for (int i = 0; i < 40; i++) {
            int now = x.count(0);
            boolean inStep = x.hop(0, 0, now) == x.hop(0, NONE, now);
            int bit = x.ofNet(0, 6);
            heard += inStep && bit != x.link(0, 0, 13) ? 1 : 0;
            seen[inStep ? 1 : 0] = true;
            x.cast(0, i);
            Check.due("it casts", x.ahead(0, 1), -2);
            x.run(1);
            Check.due("heard in step alone", x.link(0, 0, 12), heard);
            Check.due("the bit heard last", x.link(0, 0, 13) == bit || !inStep ? 1 : 0, 1);
        }
        Check.that("in step and not", seen[0] && seen[1]);
        Check.due("not told as step", x.count(14), 0);
        Check.due("sent", x.count(17), 40);
    }

    // II (d): "nobody answers": a CAST takes one DRAW, and WHY stays.
    private static void nobodyAnswersACast() {
        HopNet x = Scene.oneNet(1);
        Scene.noise(x, 16);
        x.run(1);
        Check.due("why", x.link(0, 0, 5), 11);
        Scene.noise(x, 0);
        int seed = x.count(2);
        x.cast(0, 5);
        x.run(1);
        Check.due("one draw", x.count(2), (1103L * seed + 12345) % 1000003);
        Check.due("no answer", x.count(11), 0);
        Check.due("why stays", x.link(0, 0, 5), 11);
        Check.due("not sent to a link", x.link(0, 0, 10), 1);
        Check.due("a packet of a master", x.count(10), 2);
    }

    // II (d): "one with INSTANT 0 at once its MAP, and there is no NEXT one."
    private static void aMapAtOnce() {
        HopNet x = Scene.oneNet(1);
        Scene.noise(x, 16);
        x.map(0, 255, 1);
        x.run(1);
        Scene.noise(x, 0);
        Check.due("time modulo 4 is 2: by the map ahead", x.count(0), 2);
        x.run(1);
        Edge.all("at once", 255, x.mapOf(0, 0, 0));
        Edge.all("no next one", 0, x.mapOf(0, 0, 1));
        Edge.all("no instant", NONE, x.mapOf(0, 0, 2));
        Edge.all("in step, known", 1, x.alike(0, 0, 0), x.alike(0, 0, 2));
    }

    // II (e): "3 (the MASTER's CHANNEL by the NET's MAP is another one)".
    private static void anAnswerOutOfStep() {
        HopNet x = oneMapBehind();
        x.put(0, 0, 0, 9);
        runUnderNoiseTo(x, true, false);
        Check.due("the packet is heard", x.run(1), 1);
        Check.due("the answer is not", x.link(0, 0, 5), 23);
        Check.due("told as step", x.count(14), 1);
        Check.due("it heard of the next map", x.mapOf(0, 0, 1), 255);
        Check.due("but the master does not know", x.alike(0, 0, 2), 0);
        Check.due("nor takes the number away", x.link(0, 0, 1), 1);
        runUnderNoiseTo(x, false, true);
        Check.due("out of step", x.run(1), 0);
        Check.due("the packet is not heard", x.link(0, 0, 5), 13);
        runUnderNoiseTo(x, true, true);
        Check.due("it is not heard again", x.run(1), 0);
        Check.due("in step in both slots", x.link(0, 0, 5), 0);
        Check.due("the master knows", x.alike(0, 0, 2), 1);
        Check.due("and takes the number away", x.link(0, 0, 1), 0);
    }

    // II (e): "as soon as it hears the next packet, ahead of its answer": so the next NUMBER is in that answer.
    private static void upGoesAheadOfTheAnswer() {
        HopNet x = Scene.oneNet(1);
        Scene.put(x, 0, 1, 2);
        Check.due("the first", x.run(1), 1);
        Check.due("it has both yet", x.link(0, 0, 2), 2);
        Check.due("the second in the next answer", x.run(1), 1);
        Check.due("one is left", x.link(0, 0, 2), 1);
        Check.due("nothing new", x.run(1), 0);
        Check.due("none is left", x.link(0, 0, 2), 0);
    }

    // II (e): "A NUMBER of UP in an answer that was heard": one in an answer that was lost stays.
    private static void upOfALostAnswerStays() {
        HopNet x = Scene.oneNet(1);
        Scene.put(x, 0, 1, 3);
        x.run(1);
        x.noise(x.hop(0, NONE, 3), 16);
        Check.due("the packet is heard, the answer is lost", x.run(1), 0);
        Check.due("why", x.link(0, 0, 5), 21);
        Check.due("the first one went", x.link(0, 0, 2), 2);
        Scene.noise(x, 0);
        Check.due("the second one comes again", x.run(1), 1);
        Check.due("it is there yet", x.link(0, 0, 2), 2);
        Check.due("the third", x.run(1), 1);
        Check.due("all in order", x.hash(0, 0, 1), (1 * 31 + 2) * 31 + 3);
    }

    // II (e): "the MASTER KNOWS, if it sent a MAP in this TURN": an answer that is lost leaves it unknowing.
    private static void knowsByAnAnswer() {
        HopNet x = Scene.oneNet(1);
        x.map(0, 255, 9);
        x.noise(x.hop(0, NONE, 1), 16);
        x.run(1);
        Check.due("the answer is lost", x.link(0, 0, 5), 21);
        Check.due("it heard of it", x.alike(0, 0, 0), 1);
        Check.due("the master does not know", x.alike(0, 0, 2), 0);
        Scene.noise(x, 0);
        x.run(1);
        Check.due("it knows", x.alike(0, 0, 2), 1);
    }

    // II (e): "WHY .. 0 it did not; else 10 .., 20 .., and 1, 2, 3", of the latest TURN alone.
    private static void whyOfTheLatestTurn() {
        HopNet x = Scene.oneNet(2);
        Scene.noise(x, 16);
        x.run(1);
        Scene.noise(x, 0);
        x.run(1);
        Check.due("another's turn leaves it", x.link(0, 0, 5), 11);
        Check.due("that one's came to something", x.link(0, 1, 5), 0);
        x.run(1);
        Check.due("its own next one does not", x.link(0, 0, 5), 0);
    }

    // II (e): "Of CHANNELS on which a MASTER sent to a LINK: SENT, ANSWERED": by the packet's CHANNEL.
    private static void sentAndAnswered() {
        HopNet x = Scene.oneNet(1);
        int packet = x.hop(0, NONE, 0);
        int answer = x.hop(0, NONE, 1);
        x.noise(answer, 16);
        x.run(1);
        Edge.all("sent", 1, x.sent(0, packet, 0));
        Edge.all("not answered", 0, x.sent(0, packet, 1), x.sent(0, answer, 0), x.sent(0, answer, 1));
        x.undo();
        x.noise(answer, 0);
        x.run(1);
        Edge.all("answered", 1, x.sent(0, packet, 0), x.sent(0, packet, 1));
        Edge.all("not on the answer's", 0, x.sent(0, answer, 0), x.sent(0, answer, 1));
    }

    // II: "A new MAP is told: .. its MASTER KNOWS of no LINK (with no LINKS nothing else)."
    private static void aMapToldToNobody() {
        HopNet x = Scene.oneNet(0);
        Check.due("told", x.map(0, 255, 1), 2);
        x.run(1);
        Check.due("no packet", x.count(10), 0);
        Check.due("next", x.mapOf(0, NONE, 1), 255);
        x.run(1);
        Check.due("the map", x.mapOf(0, NONE, 0), 255);
        x.radio(5);
        x.join(0, 1);
        Edge.all("one that comes holds it", 1, x.alike(0, 0, 0), x.alike(0, 0, 2));
        HopNet y = Scene.oneNet(4);
        y.map(0, 255, 1);
        Edge.all("it knows of none", 0, y.alike(0, 0, 2), y.alike(0, 1, 2), y.alike(0, 2, 2), y.alike(0, 3, 2));
        y.map(0, 511, 1);
        Edge.all("a refused one is not told", 255, y.mapOf(0, NONE, 1));
    }

    public static void main(String[] args) {
        hopsAreChannels();
        timeIsEven();
        clockOfANet();
        hopsByAMap();
        sharesOfARow();
        aMasterThatIsAway();
        noiseAndDraws();
        draws();
        aNetAtFirst();
        aLinkAtFirst();
        aLinkThatComesAgain();
        fullRowsInOrder();
        bitsGoRound();
        lags();
        lagsOfNumbersPutByAndBy();
        lagOfAPassedNumber();
        framesCome();
        windows();
        gotInTheLastTurn();
        awake();
        readyIsThereAndAwake();
        bitsOfCasts();
        fullCastsInOrder();
        repeats();
        fewerRepeats();
        passedFrom128On();
        droppedAtEight();
        whatIsNotPassed();
        notPassedTwice();
        mapsChangeAtTheirInstant();
        mapsChangeOfThoseAway();
        framesComeToThoseAway();
        theOrderOfChoice();
        framesOfTheOuterLinks();
        oneThatLeftIsNotChosen();
        onlyThoseThatAreReady();
        rowsOfPolls();
        polledItselfAtTheLast();
        noneIsReady();
        onlyPollsMovePolled();
        theMapAhead();
        theMapOfOneKnown();
        drawsNetByNet();
        aDrawForEachPacketAndAnswer();
        theOrderOfLosses();
        eachTallyIsItsOwn();
        noClashWithOneThatIsSilent();
        castsToThoseAwake();
        castsToThoseInStep();
        nobodyAnswersACast();
        aMapAtOnce();
        anAnswerOutOfStep();
        upGoesAheadOfTheAnswer();
        upOfALostAnswerStays();
        knowsByAnAnswer();
        whyOfTheLatestTurn();
        sentAndAnswered();
        aMapToldToNobody();
        Check.finish();
    }
}
