import java.util.List;
import java.util.Random;

/**
 * What holds in every state, by chance runs: refused acts and questions change nothing, undo() and
 * back() bring all back, and what was said on paper comes true.
 */
public final class LawsTest {
    private final Random random;
    private final HopNet x = new HopNet();

    private LawsTest(long seed) {
        random = new Random(seed);
    }

    private int among(int lo, int hi) {
        return lo + random.nextInt(hi - lo + 1);
    }

    private int anAct() {
        int net = among(0, 1);
        int link = among(0, 2);
        switch (random.nextInt(14)) {
            case 0: return x.radio(random.nextInt());
            case 1: return x.net(net, among(0, 5), among(0, 99));
            case 2: return x.join(net, among(0, 6));
            case 3: return random.nextInt(4) > 0 ? x.weigh(net, link, among(1, 5)) : x.leave(net, link);
            case 4: return x.noise(among(0, 23), among(0, 8));
            case 5: return x.terms(among(0, 2), among(0, 40));
            case 6: return x.reserve(net, link, 2 * among(0, 21), 2 * among(0, 10), among(0, 3));
            case 7: return x.map(net, random.nextInt(1 << 23) | random.nextInt(1 << 23), among(0, 8));
            case 8: return x.adapt(net, among(1, 4), among(1, 8));
            case 9: return x.sniff(net, link, 2 * among(0, 33), among(1, 5));
            case 10: return x.cast(net, among(0, 256));
            case 11: return x.put(net, link, among(0, 2), among(0, 256));
            case 12: return x.put(net, link, among(0, 1), among(100, 255));
            default: return x.run(among(0, 9));
        }
    }

    private void actsAreTakenBack() {
        List<Integer> before = View.of(x);
        int kept = x.count(9);
        boolean refused = anAct() < 0 && x.status() < 0 || x.status() < 0;
        if (refused) {
            Check.that("a refused act changes nothing", before.equals(View.of(x)) && x.count(9) == kept);
            return;
        }
        Check.due("an act is kept", x.count(9), Math.min(8, kept + 1));
        List<Integer> after = View.of(x);
        if (random.nextInt(3) == 0) {
            Check.that("undo tells an act", x.undo() >= 0);
            Check.that("undo brings all back", before.equals(View.of(x)));
        } else if (random.nextInt(4) == 0) {
            int k = among(0, 1);
            x.image(k);
            for (int i = 0; i < 4; i++) {
                anAct();
            }
            x.back(k);
            Check.that("back brings all back", after.equals(View.of(x)));
            Check.due("back leaves nothing to undo", x.count(9), 0);
        }
    }

    private void questionsChangeNothing() {
        List<Integer> before = View.of(x);
        x.drain(0, 0);
        x.would(2 * among(0, 16), among(1, 50), among(0, 2));
        x.bestShare(among(1, 8));
        x.bestOffset(among(1, 50));
        x.clashes(among(1, 50));
        x.meets();
        Check.that("questions change nothing", before.equals(View.of(x)));
    }

    private void paperComesTrue() {
        x.image(0);
        int share = 2 * among(0, 16);
        int n = among(1, 20);
        int heard = x.would(share, n, 0);
        int others = x.would(share, n, 2);
        x.terms(1, share);
        Check.due("would: heard", x.run(n), heard);
        int unlike = 0;
        for (int net = 0; net < 2; net++) {
            for (int l = 0; l < x.ofNet(net, 2); l++) {
                unlike += x.alike(net, l, 1) == 0 ? 1 : 0;
            }
        }
        Check.due("would: other maps", unlike, others);
        x.back(0);
        for (int net = 0; net < 2; net++) {
            aheadComesTrue(net);
            x.back(0);
            drainComesTrue(net);
            x.back(0);
        }
    }

    private void aheadComesTrue(int net) {
        int n = among(1, 12);
        int said = x.ahead(net, n);
        if (n > 1) {
            x.run(n - 1);
        }
        int[] chosen = new int[4];
        for (int l = 0; l < 4; l++) {
            chosen[l] = x.link(net, l, 10);
        }
        int casts = x.count(17);
        x.run(1);
        for (int l = 0; l < 4; l++) {
            Check.due("ahead: chosen", x.link(net, l, 10) - chosen[l], l == said ? 1 : 0);
        }
        Check.that("ahead: a cast is sent", said != -2 || x.count(17) > casts);
    }

    private void drainComesTrue(int net) {
        int said = x.drain(net, 0);
        for (int t = 0; t < Math.min(said, 60); t++) {
            Check.that("drain: not empty yet", x.link(net, 0, 1) + x.link(net, 0, 2) > 0);
            x.run(1);
        }
        if (said >= 0 && said <= 60) {
            Check.due("drain: empty", x.link(net, 0, 1) + x.link(net, 0, 2), 0);
        }
    }

    private void bestShareIsBest() {
        int n = among(1, 8);
        int best = x.bestShare(n);
        for (int share = 0; share <= 32; share += 2) {
            int heard = x.would(share, n, 0);
            int most = x.would(best, n, 0);
            Check.that("best share", share < best ? heard < most : heard <= most);
        }
    }

    private void play() {
        for (int i = 0; i < 4; i++) {
            x.radio(random.nextInt(268435456));
        }
        x.net(0, 0, 0);
        x.net(1, 1, 7);
        x.join(0, 2);
        x.join(1, 2);
        x.join(0, 3);
        for (int i = 0; i < 60; i++) {
            actsAreTakenBack();
            if (i % 10 == 9) {
                questionsChangeNothing();
                paperComesTrue();
                bestShareIsBest();
            }
        }
    }

    public static void main(String[] args) {
        for (int seed = 0; seed < 150 && Check.wrongSoFar() == 0; seed++) {
            new LawsTest(seed).play();
        }
        Check.finish();
    }
}
