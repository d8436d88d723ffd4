import java.util.Arrays;
import java.util.Random;

/** Terms, "CODER, reading": each step at its edges. */
public final class ReadingEdgesTest {
    private static final Check CHECK = new Check("ReadingEdgesTest");
    private static final int HALF = 128;

    public static void main(String[] args) {
        firstTwoBytes();
        missingBytesAre0();
        valueAtLeastSplit();
        rangeBelow128();
        nextByteAt8();
        beyond600Bytes();
        valueHasNoBound();
        anyBytesAtRandom();
        firstBitIsTheHighest();
        CHECK.close();
    }

    private static void firstTwoBytes() {
        CHECK.sentence("VALUE is the first two bytes, as one number");
        CHECK.same("7F FF", Feeder.reading(0x7F, 0xFF).get(HALF, 1), 0);
        CHECK.same("80 00", Feeder.reading(0x80, 0x00).get(HALF, 1), 1);
        CHECK.same("00 80", Feeder.reading(0x00, 0x80).get(HALF, 1), 0);
        CHECK.same("00 80, sixteen bits", Feeder.reading(0x00, 0x80).get(HALF, 16), 0x80);
        // Reading begins there again, whatever was read before.
        KeyFrames x = Feeder.reading(0x80, 0x00, 0xFF);
        x.get(77, 29);
        x.read();
        CHECK.same("again", x.get(HALF, 1), 1);
        CHECK.same("again", x.get(HALF, 14), 0);
    }

    private static void missingBytesAre0() {
        CHECK.sentence("(0 for bytes that are not there, here and later)");
        CHECK.same("none", Feeder.reading().get(1, 32), 0);
        CHECK.same("none", Feeder.reading().get(255, 32), 0);
        CHECK.same("one, below", Feeder.reading(0x7F).get(HALF, 1), 0);
        CHECK.same("one", Feeder.reading(0x80).get(HALF, 1), 1);
        CHECK.same("one and what is behind it", Feeder.reading(0x80).get(HALF, 32), 1 << 31);
        Random random = new Random(31);
        for (int many = 0; many <= 12; many++) {
            int[] octets = random.ints(many, 0, 255).toArray();
            KeyFrames some = Feeder.reading(octets);
            KeyFrames filled = Feeder.reading(Arrays.copyOf(octets, 100));
            for (int i = 0; i < 40; i++) {
                int p = 1 + random.nextInt(255);
                CHECK.same("behind " + many + " bytes", some.get(p, 16), filled.get(p, 16));
            }
            CHECK.same("no byte came", some.octet(many), -1);
        }
        // Bytes of an earlier writing or feeding that are erased are not there.
        KeyFrames x = Feeder.fed(255, 255, 255, 255);
        x.erase();
        x.feed(1, 0x80 << 24, 0, 0, 0);
        x.read();
        CHECK.same("erased ones are not there", x.get(HALF, 32), 1 << 31);
    }

    private static void valueAtLeastSplit() {
        CHECK.sentence("is VALUE at least that, the BIT is 1");
        for (int p = 1; p <= 255; p++) {
            int split = 1 + 254 * p / 256;
            CHECK.same("just SPLIT, " + p, Feeder.reading(split, 0).get(p, 1), 1);
            CHECK.same("one more, " + p, Feeder.reading(split, 1).get(p, 1), 1);
            CHECK.same("one less, " + p, Feeder.reading(split - 1, 255).get(p, 1), 0);
        }
        CHECK.sentence("RANGE and VALUE are less by SPLIT and 256 SPLIT; else RANGE is SPLIT");
        // Behind a BIT 1 RANGE is 127, doubled 254, with a SPLIT of 127; behind a 0 it is 128, with one of 64.
        CHECK.same("1 1", Feeder.reading(0xBF, 0x80).get(HALF, 2), 3);
        CHECK.same("1 0", Feeder.reading(0xBF, 0x7F).get(HALF, 2), 2);
        CHECK.same("0 1", Feeder.reading(0x40, 0x00).get(HALF, 2), 1);
        CHECK.same("0 0", Feeder.reading(0x3F, 0xFF).get(HALF, 2), 0);
    }

    private static void rangeBelow128() {
        CHECK.sentence("Then as long as RANGE is below 128: both are doubled");
        // With 1 a BIT 0 leaves RANGE 1, doubled seven times; VALUE too: 00 01 becomes 00 80, then 40 00.
        CHECK.same("00 01", Feeder.reading(0x00, 0x01).get(1, 3), 1);
        CHECK.same("00 01", Feeder.reading(0x00, 0x01).get(1, 2), 0);
        // 128 is not doubled: the second BIT compares the same VALUE with 64.
        CHECK.same("40 00 behind 128", Feeder.reading(0x40, 0x00).get(HALF, 2), 1);
        // 127 is: what is left of 80 80 is 00 80, doubled 01 00, and with 1 that is just 256 times SPLIT.
        KeyFrames x = Feeder.reading(0x80, 0x80);
        CHECK.same("the first", x.get(HALF, 1), 1);
        CHECK.same("01 00 is just SPLIT", x.get(1, 1), 1);
        KeyFrames y = Feeder.reading(0x80, 0x7F);
        CHECK.same("the first", y.get(HALF, 1), 1);
        CHECK.same("00 FE is below it", y.get(1, 1), 0);
    }

    private static void nextByteAt8() {
        CHECK.sentence("COUNT is one more; if it is 8, it is 0, and the next byte is added to VALUE");
        // With zeros before it a byte comes to the place where a BIT 1 needs its highest bit.
        for (int zeros = 0; zeros <= 20; zeros++) {
            int[] octets = new int[zeros + 1];
            for (int last : new int[] {0x7F, 0x80}) {
                octets[zeros] = last;
                KeyFrames x = Feeder.reading(octets);
                for (int i = 0; i < zeros; i++) {
                    CHECK.same("zeros", x.get(HALF, 8), 0);
                }
                CHECK.same("byte " + zeros, x.get(HALF, 1), last >> 7);
            }
        }
        // With 1 each BIT 0 is seven doublings: behind two the third byte is there, moved up by six.
        CHECK.same("FF, 14 doublings", Feeder.reading(0, 0, 0xFF).get(1, 3), 1);
        CHECK.same("04, 14 doublings", Feeder.reading(0, 0, 0x04).get(1, 3), 1);
        CHECK.same("03, 14 doublings", Feeder.reading(0, 0, 0x03).get(1, 3), 0);
        CHECK.same("FF, 7 doublings", Feeder.reading(0, 0, 0xFF).get(1, 2), 0);
    }

    private static void beyond600Bytes() {
        CHECK.sentence("BYTES are at most 600; 0 for bytes that are not there");
        int[] octets = new int[600];
        octets[599] = 1;
        KeyFrames x = Feeder.reading(octets);
        Unpacker own = new Unpacker(octets);
        for (int i = 0; i < 200; i++) {
            CHECK.same("get " + i, x.get(HALF, 32), own.bits(HALF, 32));
        }
        for (int i = 0; i < 200; i++) {
            CHECK.same("far beyond, " + i, x.get(1, 32), 0);
        }
    }

    /** No writer makes a first byte of 255. Then VALUE is never below 256 RANGE, and each BIT is 1, for ever. */
    private static void valueHasNoBound() {
        CHECK.sentence("VALUE (without a bound)");
        for (int second : new int[] {0, 1, 128, 255}) {
            KeyFrames x = Feeder.reading(255, second);
            for (int i = 0; i < 400; i++) {
                CHECK.same("ones " + i, x.get(1 + (i * 37) % 255, 32), -1);
            }
        }
        KeyFrames all = new KeyFrames();
        for (int i = 0; i < 37; i++) {
            all.feed(16, -1, -1, -1, -1);
        }
        all.read();
        for (int i = 0; i < 400; i++) {
            CHECK.same("of 255s " + i, all.get(255, 32), -1);
        }
        CHECK.same("a first byte of 254", Feeder.reading(254, 0).get(255, 3), 4);
        CHECK.same("FE FF", Feeder.reading(254, 255).get(255, 2), new Unpacker(254, 255).bits(255, 2));
    }

    private static void anyBytesAtRandom() {
        CHECK.sentence("CODER, reading, of any bytes");
        Random random = new Random(32);
        for (int run = 0; run < 400; run++) {
            int[] octets = random.ints(random.nextInt(60), 0, 256).toArray();
            if (octets.length > 0 && run % 4 == 0) {
                octets[0] = 254 + random.nextInt(2);
            }
            KeyFrames x = Feeder.reading(octets);
            Unpacker own = new Unpacker(octets);
            for (int i = 0; i < 60; i++) {
                int p = random.nextInt(3) == 0 ? 1 + 254 * random.nextInt(2) : 1 + random.nextInt(255);
                int many = random.nextInt(33);
                CHECK.same("run " + run + ", get " + i, x.get(p, many), own.bits(p, many));
            }
        }
    }

    private static void firstBitIsTheHighest() {
        CHECK.sentence("as a number, the first the highest");
        CHECK.same("one of 32", Feeder.reading(0x80).get(HALF, 32), Integer.MIN_VALUE);
        CHECK.same("one of 31", Feeder.reading(0x80).get(HALF, 31), 1 << 30);
        CHECK.same("one of one", Feeder.reading(0x80).get(HALF, 1), 1);
        CHECK.same("of none", Feeder.reading(0x80).get(HALF, 0), 0);
        CHECK.same("the last of 32", Feeder.reading(0, 0, 0, 1).get(HALF, 32), 1);
        CHECK.same("all of 32", Feeder.reading(255, 255, 255, 255, 255, 255).get(HALF, 32), -1);
    }
}
