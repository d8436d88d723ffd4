import java.math.BigInteger;

/** The reading coder once more, with a value that no number of bits bounds. */
final class Unpacker {
    private final int[] octets;
    private BigInteger value;
    private int range = 255;
    private int count = 0;
    private int next = 2;

    Unpacker(int... octets) {
        this.octets = octets;
        value = BigInteger.valueOf(256L * octet(0) + octet(1));
    }

    private int octet(int k) {
        return k < octets.length ? octets[k] : 0;
    }

    int bit(int p) {
        int split = 1 + (range - 1) * p / 256;
        BigInteger compared = BigInteger.valueOf(256L * split);
        int bit = value.compareTo(compared) >= 0 ? 1 : 0;
        if (bit == 1) {
            range -= split;
            value = value.subtract(compared);
        } else {
            range = split;
        }
        while (range < 128) {
            range *= 2;
            value = value.shiftLeft(1);
            count++;
            if (count == 8) {
                count = 0;
                value = value.add(BigInteger.valueOf(octet(next)));
                next++;
            }
        }
        return bit;
    }

    int bits(int p, int many) {
        int number = 0;
        for (int i = 0; i < many; i++) {
            number = 2 * number + bit(p);
        }
        return number;
    }

    int beyond() {
        return Math.max(0, next - octets.length);
    }
}
