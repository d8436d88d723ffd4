import java.math.BigInteger;
import java.util.ArrayList;
import java.util.List;

/**
 * The writing coder once more, with a bottom that never loses a bit: carries need no care here, so that
 * the program's own carries are checked against something that is not built like them.
 */
final class Packer {
    private BigInteger bottom = BigInteger.ZERO;
    private int range = 255;
    private int shifts = 0;
    /** All bits so far, each as its probability and itself. */
    private final List<int[]> all = new ArrayList<>();

    void bit(int p, int bit) {
        all.add(new int[] {p, bit});
        int split = 1 + (range - 1) * p / 256;
        if (bit == 1) {
            bottom = bottom.add(BigInteger.valueOf(split));
            range -= split;
        } else {
            range = split;
        }
        while (range < 128) {
            range *= 2;
            bottom = bottom.shiftLeft(1);
            shifts++;
        }
    }

    void bits(int p, int bits, int many) {
        for (int i = many - 1; i >= 0; i--) {
            bit(p, (bits >>> i) & 1);
        }
    }

    /** How many bytes are written before the end: the first after 24 shifts, then one after each 8. */
    int written() {
        return shifts < 24 ? 0 : (shifts - 16) / 8;
    }

    /** Doublings that are left until the next byte is written. */
    int count() {
        return shifts < 24 ? 24 - shifts : 8 - shifts % 8;
    }

    /** All bytes, those of the end too. */
    int[] octets() {
        int size = written() + 4;
        BigInteger whole = bottom.shiftLeft(24 + 8 * written() - shifts);
        int[] octets = new int[size];
        for (int i = 0; i < size; i++) {
            octets[i] = whole.shiftRight(8 * (size - 1 - i)).intValue() & 255;
        }
        return octets;
    }

    /** The same bits as calls of put, as few as there can be: up to 32 with one probability in each. */
    List<Call> puts() {
        List<Call> puts = new ArrayList<>();
        int from = 0;
        while (from < all.size()) {
            int p = all.get(from)[0];
            int bits = 0;
            int many = 0;
            while (many < 32 && from + many < all.size() && all.get(from + many)[0] == p) {
                bits = bits << 1 | all.get(from + many)[1];
                many++;
            }
            puts.add(new Call("put", p, bits, many));
            from += many;
        }
        return puts;
    }
}
