/** Objects that tests begin with. */
final class Scene {
    static final int ALL = 8388607;

    private Scene() {
    }

    /** NET 0 of RADIO 0 with LINKS of RADIOS 1, 2; NET 1 of RADIO 3 with a LINK of RADIO 1, which SHARES. */
    static HopNet twoNets() {
        HopNet x = new HopNet();
        for (int i = 0; i < 4; i++) {
            x.radio(12345 + 7001 * i);
        }
        x.net(0, 0, 0);
        x.net(1, 3, 9);
        x.join(0, 1);
        x.join(0, 2);
        x.join(1, 1);
        return x;
    }

    /** NET 0 of RADIO 0 with so many LINKS, of RADIOS 1 on. */
    static HopNet oneNet(int links) {
        HopNet x = new HopNet();
        for (int i = 0; i <= links; i++) {
            x.radio(90000 + 5 * i);
        }
        x.net(0, 0, 0);
        for (int i = 1; i <= links; i++) {
            x.join(0, i);
        }
        return x;
    }

    /** The same NOISE on every CHANNEL. */
    static void noise(HopNet x, int v) {
        for (int channel = 0; channel < 23; channel++) {
            x.noise(channel, v);
        }
    }

    /** Goes on to a TIME, even and not ahead of now. */
    static void runTo(HopNet x, int time) {
        for (int left = (time - x.count(0)) / 2; left > 0; left -= 200) {
            x.run(Math.min(left, 200));
        }
    }

    static void put(HopNet x, int link, int which, int howMany) {
        for (int i = 0; i < howMany; i++) {
            x.put(0, link, which, i);
        }
    }
}
