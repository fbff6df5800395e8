/** How a TURN goes, step by step: each run is small enough to follow by hand. */
public final class TurnTest {
    private static final int ALL = 8388607;

    /** NET 0 of RADIO 0 and this many LINKS, of RADIOS 1 on. */
    private static HopNet oneNet(int links) {
        HopNet x = new HopNet();
        for (int i = 0; i <= links; i++) {
            x.radio(90000 + 5 * i);
        }
        x.net(0, 0, 0);
        for (int i = 1; i <= links; i++) {
            x.join(0, i);
        }
        return x;
    }

    private static void quietAir(HopNet x) {
        for (int c = 0; c < 23; c++) {
            x.noise(c, 0);
        }
    }

    private static void fullNoise(HopNet x) {
        for (int c = 0; c < 23; c++) {
            x.noise(c, 16);
        }
    }

    /** Noise on the CHANNEL of one slot alone, if no other slot of the TURN has it. */
    private static void noiseInSlot(HopNet x, int slot) {
        quietAir(x);
        x.noise(x.hop(0, -1, slot), 16);
    }

    private static void draws() {
        HopNet x = oneNet(1);
        long s = 1;
        x.run(1);
        for (int i = 0; i < 2; i++) {
            s = (1103 * s + 12345) % 1000003;
        }
        Check.due("draws of a turn that is answered", x.count(2), s);
        noiseInSlot(x, 2);
        x.run(1);
        s = (1103 * s + 12345) % 1000003;
        Check.due("one draw, if there is no answer", x.count(2), s);
        Check.due("why", x.link(0, 0, 5), 11);
        x.leave(0, 0);
        x.run(5);
        Check.due("no draw, if nobody sends", x.count(2), s);
    }

    private static void noiseIsBelowItsDraw() {
        HopNet x = oneNet(1);
        for (int seed = 0; seed < 40; seed++) {
            long s = (1103L * seed + 12345) % 1000003;
            int draw = (int) (s % 16);
            x.terms(0, seed);
            int channel = x.hop(0, -1, x.count(0));
            quietAir(x);
            x.noise(channel, draw);
            x.run(1);
            Check.that("heard at its draw", x.link(0, 0, 5) != 11);
            x.undo();
            x.noise(channel, draw + 1);
            x.run(1);
            Check.due("not heard above it", x.link(0, 0, 5), 11);
            x.undo();
        }
    }

    private static void sequenceBits() {
        HopNet x = oneNet(1);
        x.put(0, 0, 0, 50);
        x.put(0, 0, 0, 51);
        noiseInSlot(x, 1);
        Check.due("down is heard", x.run(1), 1);
        Check.due("the answer is not", x.link(0, 0, 5), 21);
        Check.due("it stays with the master", x.link(0, 0, 1), 2);
        Check.due("its bit too", x.link(0, 0, 6), 0);
        Check.due("heard last", x.link(0, 0, 7), 0);
        quietAir(x);
        Check.due("it comes again, and is not heard again", x.run(1), 0);
        Check.due("it is taken away", x.link(0, 0, 1), 1);
        Check.due("the bit is the other one", x.link(0, 0, 6), 1);
        Check.due("the next one", x.run(1), 1);
        Check.due("in order", x.hash(0, 0, 0), 31 * 51 + 52);
        Check.due("the greatest lag", x.link(0, 0, 14), 2);
        Check.due("answers", x.count(11), 3);
        Check.due("not heard by noise", x.count(12), 1);
    }

    private static void upIsTakenWithTheNextPacket() {
        HopNet x = oneNet(1);
        x.put(0, 0, 1, 9);
        x.put(0, 0, 1, 10);
        Check.due("up is heard", x.run(1), 1);
        Check.due("the member still has it", x.link(0, 0, 2), 2);
        Check.due("bit of the sender", x.link(0, 0, 8), 0);
        Check.due("bit heard last", x.link(0, 0, 9), 0);
        noiseInSlot(x, 2);
        Check.due("no packet", x.run(1), 0);
        Check.due("it still has it", x.link(0, 0, 2), 2);
        noiseInSlot(x, 5);
        Check.due("a packet, the answer is lost", x.run(1), 0);
        Check.due("it was taken away ahead of that", x.link(0, 0, 2), 1);
        Check.due("its bit is the other one", x.link(0, 0, 8), 1);
        Check.due("its lag", x.link(0, 0, 15), 2);
        quietAir(x);
        Check.due("the second one comes again", x.run(1), 1);
        Check.due("hash", x.hash(0, 0, 1), 31 * 10 + 11);
        x.run(1);
        Check.due("empty", x.link(0, 0, 2), 0);
        Check.due("greatest lag", x.link(0, 0, 15), 4);
    }

    private static void pollsInTurn() {
        HopNet x = oneNet(3);
        int[] due = {0, 1, 2, 0, 1, 2, 0};
        for (int i = 0; i < due.length; i++) {
            Check.due("polls in turn", x.ahead(0, i + 1), due[i]);
        }
        x.weigh(0, 1, 3);
        int[] weighed = {0, 1, 1, 1, 2, 0, 1, 1, 1, 2};
        for (int i = 0; i < weighed.length; i++) {
            Check.due("polls by weight", x.ahead(0, i + 1), weighed[i]);
        }
        x.sniff(0, 2, 64, 1);
        x.run(1);
        int[] asleep = {1, 1, 1, 0, 1, 1, 1, 0};
        for (int i = 0; i < asleep.length; i++) {
            Check.due("one that sleeps is passed over", x.ahead(0, i + 1), asleep[i]);
        }
        x.run(8);
        Check.due("chosen", x.link(0, 1, 10), 6);
        Check.due("polled", x.ofNet(0, 3), 0);
    }

    private static void aRowOfPollsGoesOnRound() {
        HopNet x = oneNet(2);
        x.weigh(0, 0, 3);
        x.sniff(0, 1, 64, 1);
        x.leave(0, 0);
        x.join(0, 1);
        x.weigh(0, 1, 3);
        // LINK 0 is awake at 0, 64 alone; LINK 1 weighs 3 and is polled all along from 2 to 62.
        x.run(32);
        Check.due("polled alone", x.link(0, 1, 10), 31);
        Check.due("more often in a row than it weighs: the other one is next", x.ahead(0, 1), 0);
        Check.due("then its row begins", x.ahead(0, 2), 1);
    }

    private static void aRowThatWentRoundIsCounted() {
        HopNet x = oneNet(2);
        x.run(1);
        x.sniff(0, 1, 64, 1);
        x.run(2);
        x.sniff(0, 1, 0, 0);
        // LINK 0 was polled three times in a row by now, the last two since no other was ready.
        x.weigh(0, 0, 3);
        Check.due("three times are not fewer than three", x.ahead(0, 1), 1);
        x.weigh(0, 0, 4);
        Check.due("but fewer than four", x.ahead(0, 1), 0);
        Check.due("once", x.ahead(0, 2), 1);
    }

    private static void framesAndCastsDoNotEndARow() {
        HopNet x = oneNet(2);
        x.weigh(0, 0, 2);
        x.run(1);
        x.cast(0, 1);
        x.terms(2, 1);
        x.run(1);
        Check.due("a cast between", x.ahead(0, 1), 0);
        x.reserve(0, 1, 40, 4, 1);
        Check.due("a frame between", x.ahead(0, 1), 1);
        Check.due("it has one more", x.ahead(0, 2), 0);
        Check.due("and no more", x.ahead(0, 3), 1);
    }

    private static void framesGoFirst() {
        HopNet x = oneNet(3);
        x.reserve(0, 2, 6, 2, 2);
        x.reserve(0, 1, 12, 2, 1);
        int[] due = {0, 1, 2, 1, 2, 2, 0, 1};
        // At 2 both frames come, the lesser link has it; at 4 the other's window is open yet; at 8
        // its own comes alone; polls at 6, 10, 12 go on behind 0; at 14 both come again.
        for (int i = 0; i < due.length; i++) {
            Check.due("frames first, turn " + i, x.ahead(0, i + 1), due[i]);
        }
        x.run(8);
        Check.due("got", x.reserved(0, 1, 3), 2);
        Check.due("got too", x.reserved(0, 2, 3), 2);
        Check.due("open yet", x.reserved(0, 2, 5), 1);
        Check.due("missed", x.reserved(0, 2, 4), 0);
    }

    private static void framesAreMissed() {
        HopNet x = oneNet(1);
        x.reserve(0, 0, 8, 2, 3);
        fullNoise(x);
        x.run(1);
        Check.due("none is open", x.reserved(0, 0, 5), 0);
        x.run(1);
        Check.due("two turns left", x.reserved(0, 0, 5), 2);
        x.run(1);
        Check.due("one turn left", x.reserved(0, 0, 5), 1);
        Check.due("none is missed yet", x.reserved(0, 0, 4), 0);
        x.run(1);
        Check.due("missed", x.reserved(0, 0, 4), 1);
        Check.due("none is left", x.reserved(0, 0, 5), 0);
        x.run(2);
        quietAir(x);
        x.run(1);
        Check.due("the next one is got in its second turn", x.reserved(0, 0, 3), 1);
        Check.due("and no more open", x.reserved(0, 0, 5), 0);
        x.run(2);
        Check.due("nor missed", x.reserved(0, 0, 4), 1);
    }

    private static void casts() {
        HopNet x = oneNet(2);
        x.sniff(0, 1, 8, 1);
        x.cast(0, 7);
        x.cast(0, 8);
        x.terms(2, 3);
        x.put(0, 0, 0, 1);
        Check.due("casts first", x.ahead(0, 6), -2);
        Check.due("then polls", x.ahead(0, 7), 0);
        Check.due("no number is heard", x.run(1), 0);
        Check.due("both heard it", x.link(0, 0, 12) * 10 + x.link(0, 1, 12), 11);
        Check.due("its bit", x.link(0, 0, 13), 0);
        Check.due("nobody answers", x.count(11), 0);
        Check.due("sent once", x.ofNet(0, 5), 1);
        Check.due("not sent to a link", x.sent(0, x.hop(0, -1, 0), 0), 0);
        fullNoise(x);
        x.run(1);
        Check.due("lost", x.count(12), 1);
        Check.due("sent twice", x.ofNet(0, 5), 2);
        x.run(1);
        Check.due("it goes, heard or not", x.ofNet(0, 4), 1);
        Check.due("the bit is the other one", x.ofNet(0, 6), 1);
        Check.due("none of the next was sent", x.ofNet(0, 5), 0);
        quietAir(x);
        x.run(1);
        Check.due("the one awake heard it", x.link(0, 0, 12) * 10 + x.link(0, 1, 12), 21);
        Check.due("hash", x.hash(0, 0, 2), 31 * 8 + 9);
        Check.due("no other hash", x.hash(0, 0, 0), 0);
        x.run(1);
        Check.due("it is not heard again", x.link(0, 0, 12), 2);
        Check.due("but by the one that wakes", x.link(0, 1, 12), 2);
        x.run(1);
        Check.due("all went", x.ofNet(0, 4), 0);
        Check.due("casts that were sent", x.count(17), 6);
        Check.due("they are packets of masters", x.count(10), 6);
        Check.due("why is told of links alone", x.link(0, 0, 5), 0);
    }

    private static void castsWithoutLinks() {
        HopNet x = oneNet(0);
        x.cast(0, 1);
        x.run(3);
        Check.due("sent to nobody", x.count(17), 2);
        x.cast(0, 2);
        x.terms(2, 4);
        x.run(3);
        x.terms(2, 1);
        Check.due("three times so far", x.ofNet(0, 5), 3);
        x.run(1);
        Check.due("it goes by fewer repeats", x.ofNet(0, 4), 0);
    }

    private static void newMapIsHeard() {
        HopNet x = oneNet(2);
        Check.due("instant", x.map(0, 0x7ff, 3), 6);
        Check.due("the first that does not know", x.ahead(0, 1), 0);
        x.run(1);
        Check.due("it holds it", x.mapOf(0, 0, 1), 0x7ff);
        Check.due("with its instant", x.mapOf(0, 0, 2), 6);
        Check.due("known", x.alike(0, 0, 2), 1);
        Check.due("alike", x.alike(0, 0, 0), 1);
        Check.due("the other is not", x.alike(0, 1, 0), 0);
        Check.due("but by the map", x.alike(0, 1, 1), 1);
        Check.due("the second then", x.ahead(0, 1), 1);
        x.run(2);
        Check.due("not yet", x.mapOf(0, -1, 0), ALL);
        x.run(1);
        Check.due("the net's", x.mapOf(0, -1, 0), 0x7ff);
        Check.due("the members'", x.mapOf(0, 0, 0) & x.mapOf(0, 1, 0), 0x7ff);
        Check.due("no next one", x.mapOf(0, 0, 1) + x.mapOf(0, -1, 1), 0);
        Check.due("the one ahead of it", x.mapOf(0, -1, 3), ALL);
        Check.due("one new map", x.count(19), 1);
    }

    private static void outOfStepAndBack() {
        HopNet x = oneNet(1);
        fullNoise(x);
        x.map(0, 0x7f8000, 2);
        x.run(2);
        Check.due("it did not hear of it", x.mapOf(0, 0, 1), 0);
        quietAir(x);
        int turns = 0;
        while (x.alike(0, 0, 2) == 0 && turns < 60) {
            int time = x.count(0);
            boolean looksThere = time % 4 == 2;
            x.run(1);
            turns++;
            int hop = x.kernel(90000, time);
            int own = x.hop(0, -1, time);
            if (x.alike(0, 0, 1) == 0 && !looksThere) {
                Check.due("by its new map it is out of step", x.link(0, 0, 5), 13);
                Check.that("on another channel", hop != own);
            }
            if (looksThere) {
                Check.due("by the map ahead it hears", x.mapOf(0, 0, 0), 0x7f8000);
            }
        }
        Check.due("found", x.alike(0, 0, 0), 1);
        Check.that("in few turns", turns <= 4);
        Check.due("why", x.link(0, 0, 5), 0);
    }

    private static void answerByTheNewMapAtOnce() {
        HopNet x = oneNet(1);
        fullNoise(x);
        x.map(0, 0x0000ff, 1);
        x.run(1);
        quietAir(x);
        Check.due("time", x.count(0), 2);
        int sentOn = x.kernel(90000, 2);
        x.put(0, 0, 1, 3);
        Check.due("answered by the new map", x.run(1), 1);
        Check.due("sent by the map ahead", x.sent(0, sentOn, 1), 1);
        Check.due("known", x.alike(0, 0, 2), 1);
    }

    /** RADIO 2 is MEMBER of both NETS. */
    private static HopNet bridge() {
        HopNet x = new HopNet();
        x.radio(10);
        x.radio(20);
        x.radio(30);
        x.net(0, 0, 0);
        x.net(1, 1, 5);
        x.join(0, 2);
        x.join(1, 2);
        return x;
    }

    private static void passesOn() {
        HopNet x = bridge();
        x.put(0, 0, 0, 127);
        x.put(0, 0, 0, 128);
        x.put(0, 0, 0, 255);
        Check.due("heard", x.run(3), 3);
        Check.due("passed", x.count(15), 2);
        Check.due("behind up of the other", x.link(1, 0, 2), 2);
        Check.due("no draws of the net that it is away from", x.link(1, 0, 10), 0);
        x.run(5);
        Check.due("it changes over", x.isThere(2, 1, 16), 1);
        Check.due("heard there", x.run(2), 2);
        Check.due("as they were", x.hash(1, 0, 1), 31 * 129 + 256);
        Check.due("lag from when it was passed", x.run(1) + x.link(1, 0, 15), 8);
        Check.due("not back again", x.link(0, 0, 2), 0);
    }

    private static void drops() {
        HopNet x = bridge();
        for (int i = 0; i < 7; i++) {
            x.put(1, 0, 1, i);
        }
        x.put(0, 0, 0, 200);
        x.put(0, 0, 0, 201);
        x.run(2);
        Check.due("passed", x.count(15), 1);
        Check.due("dropped", x.count(16), 1);
        Check.due("full", x.link(1, 0, 2), 8);
        x.leave(1, 0);
        x.put(0, 0, 0, 202);
        x.run(1);
        Check.due("a member of one net passes nothing", x.count(15) + x.count(16), 2);
    }

    private static void aMasterThatIsAway() {
        HopNet x = new HopNet();
        for (int i = 0; i < 3; i++) {
            x.radio(100 * i);
        }
        x.net(0, 0, 0);
        x.net(1, 1, 0);
        x.join(0, 2);
        x.join(1, 0);
        x.terms(1, 4);
        x.reserve(0, 0, 8, 6, 1);
        int[] first = {0, 0, -1, -1, -1, -1, -1, -1, -1, -1, -1, -1, -1, -1, -1, -1, 0, 0, -1};
        for (int i = 0; i < first.length; i++) {
            Check.due("its net does nothing", x.ahead(0, i + 1), first[i]);
            Check.due("its link is ready elsewhere", x.ahead(1, i + 1), first[i] == 0 ? -1 : 0);
        }
        x.run(16);
        Check.due("frames come and are missed", x.reserved(0, 0, 4), 4);
        Check.due("ready all along", x.link(0, 0, 11), 16);
        Check.due("ready by turns", x.link(1, 0, 11), 14);
        Check.due("chosen twice", x.link(0, 0, 10), 2);
    }

    private static void clash() {
        HopNet x = new HopNet();
        for (int i = 0; i < 4; i++) {
            x.radio(777);
        }
        x.net(0, 0, 0);
        x.net(1, 1, 0);
        x.join(0, 2);
        x.join(1, 3);
        x.put(0, 0, 0, 1);
        Check.due("nothing is heard", x.run(3), 0);
        Check.due("why", x.link(0, 0, 5) * 100 + x.link(1, 0, 5), 1212);
        Check.due("clashes", x.count(13), 6);
        Check.due("no answers", x.count(11), 0);
        x.noise(x.hop(0, -1, 6), 16);
        x.run(1);
        Check.due("noise goes first", x.link(0, 0, 5) * 100 + x.link(1, 0, 5), 1111);
        Check.due("sent all the same", x.sent(0, x.hop(0, -1, 6), 0), x.sent(1, x.hop(0, -1, 6), 0));
        x.cast(1, 1);
        x.noise(x.hop(0, -1, 6), 0);
        x.run(1);
        Check.due("a cast clashes too", x.link(0, 0, 5) + x.link(1, 0, 12), 12);
        Check.due("told", x.count(13), 8);
    }

    private static void clashOfAnswers() {
        HopNet x = null;
        boolean found = false;
        for (int address = 1; address < 2000 && !found; address++) {
            x = new HopNet();
            x.radio(0);
            x.radio(address);
            x.radio(3);
            x.radio(4);
            x.net(0, 0, 0);
            x.net(1, 1, 0);
            x.join(0, 2);
            x.join(1, 3);
            found = x.meets() == 1;
        }
        Check.that("a pair that meets in an answer's slot", found);
        x.put(1, 0, 0, 5);
        x.put(1, 0, 1, 5);
        Check.due("the packets are heard", x.run(1), 1);
        Check.due("both answer", x.count(11), 2);
        Check.due("both clash", x.count(13), 2);
        Check.due("why", x.link(0, 0, 5) * 100 + x.link(1, 0, 5), 2222);
        x.undo();
        x.noise(x.hop(0, -1, 0), 16);
        x.run(1);
        Check.due("without the other's it is heard", x.link(0, 0, 5) * 100 + x.link(1, 0, 5), 1100);
    }

    public static void main(String[] args) {
        draws();
        noiseIsBelowItsDraw();
        sequenceBits();
        upIsTakenWithTheNextPacket();
        pollsInTurn();
        aRowOfPollsGoesOnRound();
        aRowThatWentRoundIsCounted();
        framesAndCastsDoNotEndARow();
        framesGoFirst();
        framesAreMissed();
        casts();
        castsWithoutLinks();
        newMapIsHeard();
        outOfStepAndBack();
        answerByTheNewMapAtOnce();
        passesOn();
        drops();
        aMasterThatIsAway();
        clash();
        clashOfAnswers();
        Check.finish();
    }
}
