/** The KERNEL and MAPS written out another way, so that tests need not ask the class for what is due. */
final class ByHand {
    private static final int[] ONE = {0, 1, 0, 2, 1, 0, 3, 1, 0};
    private static final int[] OTHER = {3, 2, 1, 4, 4, 2, 4, 3, 4};

    private ByHand() {
    }

    /** Bit by bit, as the document tells it, on a row of five bits. */
    static int kernel(int address, int clock) {
        int z = (address % 32 + clock % 32) % 32;
        int[] bits = new int[5];
        for (int i = 0; i < 5; i++) {
            bits[i] = (z >> i & 1) ^ (address >> 5 + i & 1) ^ (clock >> 7 + i & 1);
        }
        for (int k = 0; k < 9; k++) {
            if ((address >> 10 + k & 1) != (clock >> 5 + k & 1)) {
                int kept = bits[ONE[k]];
                bits[ONE[k]] = bits[OTHER[k]];
                bits[OTHER[k]] = kept;
            }
        }
        int hop = address / 524288 % 32 + clock % 2 * 13;
        for (int i = 0; i < 5; i++) {
            hop += bits[i] << i;
        }
        return hop % 23;
    }

    static int byMap(int hop, int map) {
        if ((map >> hop & 1) == 1) {
            return hop;
        }
        int[] row = new int[23];
        int many = 0;
        for (int channel = 0; channel < 23; channel++) {
            if ((map >> channel & 1) == 1) {
                row[many] = channel;
                many++;
            }
        }
        return row[hop % many];
    }

    /** The CHANNELS of clocks from one on. */
    static int[] channels(int address, int clock, int howMany, int map) {
        int[] row = new int[howMany];
        for (int i = 0; i < howMany; i++) {
            row[i] = byMap(kernel(address, clock + i), map);
        }
        return row;
    }

    /** In how many places, the second row moved on by so much, both have the same CHANNEL. */
    static int alike(int[] first, int[] second, int moved) {
        int times = 0;
        for (int i = 0; i < first.length; i++) {
            times += first[i] == second[i + moved] ? 1 : 0;
        }
        return times;
    }

    /** The first of so many moves by which they are alike in fewest places. */
    static int bestMove(int[] first, int[] second, int moves) {
        int best = 0;
        for (int moved = 1; moved < moves; moved++) {
            best = alike(first, second, moved) < alike(first, second, best) ? moved : best;
        }
        return best;
    }
}
