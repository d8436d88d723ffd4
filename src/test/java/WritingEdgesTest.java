import java.util.Random;

/** Terms, "CODER, writing" and "The END": each step at its edges. */
public final class WritingEdgesTest {
    private static final Check CHECK = new Check("WritingEdgesTest");
    /** A PROBABILITY that halves RANGE: each BIT is one doubling, but for a first one that is 0. */
    private static final int HALF = 128;

    public static void main(String[] args) {
        atFirst();
        splitIsCut();
        rangeBelow128();
        countDown();
        highestBitsAreWritten();
        lower24BitsStay();
        oneIsAddedWhileDoubling();
        oneIsAddedByTheEnd();
        endAtEachCount();
        endIsFourBytes();
        CHECK.close();
    }

    private static KeyFrames writing() {
        KeyFrames x = new KeyFrames();
        x.write();
        return x;
    }

    private static void checkOctets(String what, KeyFrames x, int... due) {
        for (int k = 0; k < due.length; k++) {
            CHECK.same(what + ", octet " + k, x.octet(k), due[k]);
        }
        CHECK.same(what + ", behind the last", x.octet(due.length), -1);
    }

    private static void atFirst() {
        CHECK.sentence("BOTTOM (32 bits) is 0 at first, RANGE 255, COUNT 24");
        KeyFrames x = writing();
        x.end();
        checkOctets("nothing", x, 0, 0, 0, 0);
        // SPLIT is 1 + 254 * 128 / 256 = 128, and so is BOTTOM; 24 doublings bring it up.
        KeyFrames one = writing();
        one.put(HALF, 1, 1);
        one.end();
        checkOctets("a BIT 1", one, 128, 0, 0, 0);
        // SPLIT is 1 + 254 * 255 / 256 = 254.
        KeyFrames likely = writing();
        likely.put(255, 1, 1);
        likely.end();
        checkOctets("a BIT 1 with 255", likely, 254, 0, 0, 0);
        // A second write begins from there again, whatever was left.
        likely.write();
        likely.put(3, 0x155, 9);
        likely.write();
        likely.put(255, 1, 1);
        likely.end();
        checkOctets("begun anew", likely, 254, 0, 0, 0);
    }

    private static void splitIsCut() {
        CHECK.sentence("SPLIT is 1 + (RANGE - 1) p / 256, cut");
        // Behind a BIT 0 with 128 RANGE is 128: SPLIT is 1 + 127 p / 256, and a BIT 1 has it as its BOTTOM.
        int[][] due = {{1, 1}, {2, 1}, {3, 2}, {127, 64}, {128, 64}, {129, 64}, {130, 65}, {254, 127}, {255, 127}};
        for (int[] row : due) {
            KeyFrames x = writing();
            x.put(HALF, 0, 1);
            x.put(row[0], 1, 1);
            x.end();
            checkOctets("a BIT 1 with " + row[0], x, row[1], 0, 0, 0);
        }
        int[] first = {1, 1, 2, 2, 3, 3, 128, 128, 129, 128, 130, 129, 254, 253, 255, 254};
        for (int i = 0; i < first.length; i += 2) {
            KeyFrames x = writing();
            x.put(first[i], 1, 1);
            x.end();
            checkOctets("a first BIT 1 with " + first[i], x, first[i + 1], 0, 0, 0);
        }
    }

    private static void rangeBelow128() {
        CHECK.sentence("Then as long as RANGE is below 128: RANGE is doubled");
        // A first BIT 0 leaves RANGE at 128, which is not doubled: 25 BITS are 24 doublings.
        KeyFrames zeros = writing();
        CHECK.same("24 zeros", zeros.put(HALF, 0, 24), 0);
        CHECK.same("25 zeros", zeros.put(HALF, 0, 1), 1);
        // A BIT 1 leaves it at 127, which is: 24 BITS are 24 doublings.
        KeyFrames ones = writing();
        CHECK.same("23 ones", ones.put(HALF, -1, 23), 0);
        CHECK.same("24 ones", ones.put(HALF, 1, 1), 1);
        // RANGE 1 is doubled seven times, the most that there are.
        KeyFrames unlikely = writing();
        CHECK.same("21 doublings", unlikely.put(1, 0, 3), 0);
        CHECK.same("28 doublings", unlikely.put(255, 1, 1), 1);
        CHECK.same("35 doublings", unlikely.put(1, 0, 1), 2);
    }

    private static void countDown() {
        CHECK.sentence("COUNT is one less; if it is 0, a byte is written, and COUNT is 8");
        KeyFrames x = writing();
        x.put(HALF, 0, 1);
        for (int doublings = 1; doublings <= 400; doublings++) {
            CHECK.same(doublings + " doublings", x.put(HALF, 0, 1), doublings < 24 ? 0 : doublings / 8 - 2);
        }
    }

    private static void highestBitsAreWritten() {
        CHECK.sentence("BOTTOM's bits 31 .. 24 are written as a byte");
        for (int first = 1; first <= 254; first++) {
            KeyFrames x = writing();
            // The byte is written by the last of 24 doublings, of which the BIT with this SPLIT has some.
            Packer packer = new Packer();
            int p = first == 1 ? 1 : (256 * (first - 1) + 253) / 254;
            packer.bit(p, 1);
            x.put(p, 1, 1);
            while (packer.written() == 0) {
                CHECK.same("none yet", x.octet(0), -1);
                packer.bit(HALF, 0);
                x.put(HALF, 0, 1);
            }
            CHECK.same("the byte", x.octet(0), first);
            CHECK.same("just one", x.octet(1), -1);
        }
    }

    private static void lower24BitsStay() {
        CHECK.sentence("BOTTOM is doubled (without its highest bit); it has just its lower 24 bits");
        Random random = new Random(11);
        for (int run = 0; run < 300; run++) {
            KeyFrames x = writing();
            Packer packer = new Packer();
            int bits = 20 + random.nextInt(100);
            for (int i = 0; i < bits; i++) {
                int p = 1 + random.nextInt(255);
                int bit = random.nextInt(3) == 0 ? 0 : 1;
                packer.bit(p, bit);
                CHECK.same("bytes", x.put(p, bit, 1), packer.written());
            }
            x.end();
            checkOctets("run " + run, x, packer.octets());
        }
    }

    private static void oneIsAddedWhileDoubling() {
        CHECK.sentence("if BOTTOM's highest bit is 1, one is added to what was written last"
                + " (a byte 255 becomes 0, and the one before has one more, and so on)");
        Random random = new Random(21);
        for (int full : new int[] {0, 1, 2, 3, 8}) {
            for (int first = 2; first <= 252; first += 25) {
                KeyFrames x = writing();
                CarryMaker maker = new CarryMaker(x, first, full, random);
                maker.putUpToTheCarry();
                checkOctets("just before", x, maker.before());
                maker.putTheCarry();
                // Eight doublings more at most bring the bit to the top.
                x.put(HALF, 0, 10);
                CHECK.same("one more", x.octet(0), first);
                for (int k = 1; k <= full; k++) {
                    CHECK.same("255 became 0", x.octet(k), 0);
                }
            }
        }
    }

    private static void oneIsAddedByTheEnd() {
        CHECK.sentence("if BOTTOM has the bit 32 - COUNT, one is added to what was written last, likewise");
        Random random = new Random(22);
        boolean[] seen = new boolean[9];
        for (int run = 0; run < 2000; run++) {
            int full = random.nextInt(5);
            int first = 2 + random.nextInt(250);
            KeyFrames x = writing();
            CarryMaker maker = new CarryMaker(x, first, full, random);
            maker.putUpToTheCarry();
            maker.putTheCarry();
            // Otherwise the doublings of that last BIT brought it to the top already.
            if (x.octet(0) == first - 1) {
                seen[maker.count()] = true;
                x.end();
                CHECK.same("one more by the END", x.octet(0), first);
                checkOctets("run " + run, x, maker.octets());
            }
        }
        for (int count = 1; count <= 8; count++) {
            CHECK.isTrue("at COUNT " + count, seen[count]);
        }
    }

    private static void endAtEachCount() {
        CHECK.sentence("then BOTTOM is moved up by COUNT modulo 8 bits (without what goes above 32 bits);"
                + " COUNT / 8 times it is moved up by 8 bits");
        // A BIT 1 and zeros behind it: a first byte of 128, wherever the END finds it.
        for (int zeros = 0; zeros <= 64; zeros++) {
            KeyFrames x = writing();
            x.put(HALF, 1, 1);
            for (int i = 0; i < zeros; i++) {
                x.put(HALF, 0, 1);
            }
            int doublings = 1 + zeros;
            int[] due = new int[(doublings < 24 ? 0 : doublings / 8 - 2) + 4];
            due[0] = 128;
            x.end();
            checkOctets(doublings + " doublings", x, due);
        }
        // The same with a last BIT 1, so that the lowest bit which is used comes up too.
        for (int zeros = 0; zeros <= 64; zeros++) {
            KeyFrames x = writing();
            Packer packer = new Packer();
            for (int i = 0; i <= zeros + 1; i++) {
                int bit = i == 0 || i == zeros + 1 ? 1 : 0;
                packer.bit(HALF, bit);
                x.put(HALF, bit, 1);
            }
            x.end();
            checkOctets("1 behind " + zeros, x, packer.octets());
        }
    }

    private static void endIsFourBytes() {
        CHECK.sentence("then its bits 31 .. 24 are written, and it is moved up by 8, four times");
        for (int bits = 0; bits <= 32; bits++) {
            KeyFrames x = writing();
            int before = x.put(HALF, 0x5A5A5A5A, bits);
            CHECK.same("four more", x.end(), before + 4);
            CHECK.isTrue("the fourth", x.octet(before + 3) >= 0);
            CHECK.same("behind it", x.octet(before + 4), -1);
        }
    }
}
