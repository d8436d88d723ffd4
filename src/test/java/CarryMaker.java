import java.util.Random;

/**
 * Writes BITS that keep BOTTOM just under a boundary of its first byte, so that the bytes behind it are all
 * 255, and then one BIT more: with it BOTTOM crosses the boundary, and a carry has to go through them all.
 */
final class CarryMaker {
    private final KeyFrames frames;
    private final Packer packer = new Packer();
    private final int first;
    private final int full;
    private final Random random;
    private int range = 255;
    private int toBoundary;
    private int crossingP;

    /** The first byte is to be this behind the carry, one less before it; then so many are full. */
    CarryMaker(KeyFrames frames, int first, int full, Random random) {
        this.frames = frames;
        this.first = first;
        this.full = full;
        this.random = random;
        this.toBoundary = first;
    }

    void putUpToTheCarry() {
        crossingP = 0;
        while (crossingP == 0) {
            int p = 1 + random.nextInt(255);
            int split = 1 + (range - 1) * p / 256;
            if (packer.written() == full + 1 && split >= toBoundary) {
                crossingP = p;
            } else if (split != toBoundary && mayPut(split)) {
                put(p, split < toBoundary ? 1 : 0, split);
            }
        }
    }

    /** No byte more than these is to come before the carry. With p = 255 there always is a way to cross. */
    private boolean mayPut(int split) {
        int next = split < toBoundary ? range - split : split;
        int doublings = Integer.numberOfLeadingZeros(next) - 24;
        return packer.written() <= full || doublings < packer.count();
    }

    void putTheCarry() {
        put(crossingP, 1, 1 + (range - 1) * crossingP / 256);
    }

    private void put(int p, int bit, int split) {
        packer.bit(p, bit);
        frames.put(p, bit, 1);
        toBoundary -= bit * split;
        range = bit == 1 ? range - split : split;
        while (range < 128) {
            range *= 2;
            toBoundary *= 2;
        }
    }

    /** The bytes that are written before the carry. */
    int[] before() {
        int[] octets = new int[full + 1];
        for (int k = 0; k <= full; k++) {
            octets[k] = k == 0 ? first - 1 : 255;
        }
        return octets;
    }

    /** COUNT as it is now. */
    int count() {
        return packer.count();
    }

    /** All bytes with the END. */
    int[] octets() {
        return packer.octets();
    }
}
