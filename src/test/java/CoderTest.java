import java.util.Random;

/** Promises 4 (write), 5 (put), 6 (end), 7 (read) and 8 (get). */
public final class CoderTest {
    private static final Check CHECK = new Check("CoderTest");

    public static void main(String[] args) {
        writeBegins();
        putTakesTheLowestBits();
        putRefusesArguments();
        putStopsBeyond560();
        endWritesFourMore();
        endOnceOnly();
        carriesGoThroughManyBytes();
        bothWaysAtRandom();
        readBegins();
        getRefusesArguments();
        getGoesOnBeyondTheBytes();
        allOnes();
        refusalsChangeNothing();
        CHECK.close();
    }

    private static void writeBegins() {
        KeyFrames x = new KeyFrames();
        x.feed(3, -1, 0, 0, 0);
        x.read();
        x.write();
        CHECK.same("no bytes", x.octet(0), -1);
        CHECK.refusesState("reading is over", () -> x.get(128, 1));
        CHECK.same("24 shifts are one byte", x.put(128, 0, 25), 1);
        x.write();
        CHECK.same("begun anew", x.put(128, 0, 24), 0);
        CHECK.same("one more", x.put(128, 0, 1), 1);
        CHECK.same("eight more", x.put(128, 0, 8), 2);
    }

    private static void putTakesTheLowestBits() {
        KeyFrames x = new KeyFrames();
        x.write();
        x.put(128, 0xFFFFFF05, 4);
        x.put(128, 0x12345678, 32);
        x.put(77, 1, 0);
        x.end();
        x.read();
        CHECK.same("four bits", x.get(128, 4), 5);
        CHECK.same("all bits", x.get(128, 32), 0x12345678);
        x.write();
        for (int i = 0; i < 8; i++) {
            x.put(128, i == 0 || i == 7 ? 1 : 0, 1);
        }
        x.end();
        x.read();
        CHECK.same("single bits", x.get(128, 8), 0x81);
    }

    private static void putRefusesArguments() {
        KeyFrames x = new KeyFrames();
        for (int round = 0; round < 2; round++) {
            for (int p : new int[] {0, 256, -1, Integer.MIN_VALUE, Integer.MAX_VALUE}) {
                CHECK.refusesArgument("put with " + p, () -> x.put(p, 0, 1));
                CHECK.refusesArgument("put of none with " + p, () -> x.put(p, 0, 0));
            }
            for (int many : new int[] {-1, 33, Integer.MIN_VALUE, Integer.MAX_VALUE}) {
                CHECK.refusesArgument("put " + many, () -> x.put(128, 0, many));
            }
            x.write();
        }
        CHECK.same("put none", x.put(1, -1, 0), 0);
        CHECK.same("put the most", x.put(255, -1, 32), 26);
    }

    private static void putStopsBeyond560() {
        KeyFrames x = new KeyFrames();
        x.write();
        x.put(1, 0, 32);
        for (int i = 0; i < 19; i++) {
            x.put(1, 0, 32);
        }
        // 26 and 19 times 28 are 558, exactly; each 0 with 1 is seven shifts more.
        CHECK.same("558", x.put(1, 0, 0), 558);
        CHECK.same("560", x.put(1, 0, 3), 560);
        CHECK.same("from 560", x.put(1, 0, 32), 588);
        CHECK.refusesState("from 588", () -> x.put(1, 0, 1));
        CHECK.refusesState("even none", () -> x.put(1, 0, 0));
        CHECK.refusesArgument("the argument first", () -> x.put(0, 0, 0));
        CHECK.same("the end still", x.end(), 592);

        KeyFrames y = new KeyFrames();
        y.write();
        for (int i = 0; i < 20; i++) {
            y.put(1, 0, 32);
        }
        CHECK.same("561", y.put(1, 0, 4), 561);
        CHECK.refusesState("from 561", () -> y.put(128, 0, 1));
    }

    private static void endWritesFourMore() {
        KeyFrames x = new KeyFrames();
        x.write();
        CHECK.same("end of nothing", x.end(), 4);
        for (int k = 0; k < 4; k++) {
            CHECK.same("octet " + k, x.octet(k), 0);
        }
        x.write();
        x.put(128, 1, 1);
        CHECK.same("end of one bit", x.end(), 4);
        // The split is 128: a bottom of 128 moved up by 24.
        CHECK.same("its byte", x.octet(0), 128);
        CHECK.same("the next", x.octet(1), 0);
    }

    private static void endOnceOnly() {
        KeyFrames x = new KeyFrames();
        CHECK.refusesState("end before", () -> x.end());
        x.write();
        x.end();
        CHECK.refusesState("end twice", () -> x.end());
        CHECK.refusesState("put behind the end", () -> x.put(128, 0, 1));
        CHECK.same("nothing more came", x.octet(4), -1);
        x.read();
        CHECK.refusesState("end while reading", () -> x.end());
        CHECK.refusesState("put while reading", () -> x.put(128, 0, 1));
        CHECK.refusesArgument("a wrong put while reading", () -> x.put(0, 0, 1));
        CHECK.same("reading goes on", x.get(128, 3), 0);
    }

    private static void carriesGoThroughManyBytes() {
        Random random = new Random(5);
        for (int run = 0; run < 400; run++) {
            KeyFrames x = new KeyFrames();
            Packer packer = new Packer();
            int first = 2 + random.nextInt(250);
            x.write();
            putUpToACarry(x, packer, first, random);
            // With few bits behind it the carry comes by the end, with more before it.
            putBoth(x, packer, 1 + random.nextInt(255), random.nextInt(), random.nextInt(20));
            compareOctets(x, packer);
            CHECK.same("the first byte", x.octet(0), first);
            CHECK.same("empty behind it", x.octet(1), 0);
        }
    }

    /**
     * Bits that keep the bottom just under a boundary of its first byte, so that the bytes behind it are all
     * 255, and then one more bit: with it the bottom crosses the boundary, and a carry goes through them all.
     */
    private static void putUpToACarry(KeyFrames x, Packer packer, int first, Random random) {
        int full = 1 + random.nextInt(9);
        int range = 255;
        int toBoundary = first;
        while (toBoundary > 0) {
            int p = 1 + random.nextInt(255);
            int split = 1 + (range - 1) * p / 256;
            boolean crosses = packer.written() > full && split >= toBoundary;
            if (crosses) {
                CHECK.same("not yet crossed", x.octet(0), first - 1);
                CHECK.same("full behind it", x.octet(full), 255);
            }
            // To stand on the boundary itself would be too early: then another p is tried.
            if (crosses || split != toBoundary) {
                int bit = crosses || split < toBoundary ? 1 : 0;
                putBoth(x, packer, p, bit, 1);
                toBoundary -= bit * split;
                range = bit == 1 ? range - split : split;
                while (range < 128) {
                    range *= 2;
                    toBoundary *= 2;
                }
            }
        }
    }

    private static void bothWaysAtRandom() {
        Random random = new Random(1);
        for (int run = 0; run < 200; run++) {
            KeyFrames x = new KeyFrames();
            Packer packer = new Packer();
            int calls = random.nextInt(60);
            int[] p = new int[calls];
            int[] bits = new int[calls];
            int[] many = new int[calls];
            x.write();
            int written = 0;
            int taken = 0;
            while (taken < calls && written <= 560) {
                p[taken] = random.nextInt(3) == 0 ? 1 + 254 * random.nextInt(2) : 1 + random.nextInt(255);
                bits[taken] = random.nextInt(4) == 0 ? -random.nextInt(2) : random.nextInt();
                many[taken] = random.nextInt(33);
                written = putBoth(x, packer, p[taken], bits[taken], many[taken]);
                taken++;
            }
            compareOctets(x, packer);
            x.read();
            for (int i = 0; i < taken; i++) {
                int due = many[i] == 32 ? bits[i] : bits[i] & ((1 << many[i]) - 1);
                CHECK.same("run " + run + " get " + i, x.get(p[i], many[i]), due);
            }
        }
    }

    private static int putBoth(KeyFrames x, Packer packer, int p, int bits, int many) {
        packer.bits(p, bits, many);
        int written = x.put(p, bits, many);
        CHECK.same("bytes behind put", written, packer.written());
        return written;
    }

    /** Ends the writing. An object has 512 calls, so at most 300 of its bytes are looked at. */
    private static void compareOctets(KeyFrames x, Packer packer) {
        int[] due = packer.octets();
        CHECK.same("bytes behind end", x.end(), due.length);
        for (int k = 0; k < Math.min(due.length, 300); k++) {
            CHECK.same("octet " + k, x.octet(k), due[k]);
        }
    }

    private static void readBegins() {
        KeyFrames x = new KeyFrames();
        CHECK.refusesState("get before", () -> x.get(128, 1));
        x.feed(3, 0x5A3C0000, 0, 0, 0);
        x.read();
        int first = x.get(128, 8);
        CHECK.same("a byte", first, 0x5A);
        x.read();
        CHECK.same("from the first again", x.get(128, 8), first);
        CHECK.same("none of them", x.get(3, 0), 0);
        CHECK.same("the bytes stay", x.octet(0), 0x5A);
        x.write();
        x.put(128, 0, 8);
        x.read();
        CHECK.refusesState("writing is over", () -> x.put(128, 0, 1));
        CHECK.refusesState("so no end", () -> x.end());
    }

    private static void getRefusesArguments() {
        KeyFrames x = new KeyFrames();
        for (int round = 0; round < 2; round++) {
            for (int p : new int[] {0, 256, -1, Integer.MIN_VALUE, Integer.MAX_VALUE}) {
                CHECK.refusesArgument("get with " + p, () -> x.get(p, 1));
                CHECK.refusesArgument("get of none with " + p, () -> x.get(p, 0));
            }
            for (int many : new int[] {-1, 33, Integer.MIN_VALUE, Integer.MAX_VALUE}) {
                CHECK.refusesArgument("get " + many, () -> x.get(128, many));
            }
            x.read();
        }
        CHECK.same("get with 1", x.get(1, 32), 0);
        CHECK.same("get with 255", x.get(255, 32), 0);
    }

    private static void getGoesOnBeyondTheBytes() {
        KeyFrames x = new KeyFrames();
        x.feed(1, 0x80 << 24, 0, 0, 0);
        x.read();
        CHECK.same("one byte", x.get(128, 32), 0x80000000);
        for (int i = 0; i < 400; i++) {
            CHECK.same("zeros behind it", x.get(1 + i % 255, 32), 0);
        }
        CHECK.same("this is no picture", x.count(5), 0);
        CHECK.same("no bytes came", x.octet(1), -1);
    }

    /** No writer makes a first byte of 255: the value outgrows the range, and each bit is 1 for ever. */
    private static void allOnes() {
        for (int second : new int[] {0, 1, 128, 255}) {
            KeyFrames x = new KeyFrames();
            x.feed(2, (255 << 24) | (second << 16), 0, 0, 0);
            x.read();
            for (int i = 0; i < 400; i++) {
                CHECK.same("ones " + i, x.get(1 + (i * 37) % 255, 32), -1);
            }
        }
        KeyFrames below = new KeyFrames();
        below.feed(16, 0xFE000000, 0, 0, 0);
        below.read();
        CHECK.same("a first byte of 254", below.get(255, 3), 4);
    }

    private static void refusalsChangeNothing() {
        KeyFrames x = new KeyFrames();
        Packer packer = new Packer();
        x.write();
        for (int i = 0; i < 40; i++) {
            putBoth(x, packer, 1 + i * 6, i * 0x9E3779B1, 9);
            CHECK.refusesArgument("put", () -> x.put(0, -1, 5));
            CHECK.refusesArgument("put", () -> x.put(9, -1, 33));
            CHECK.refusesState("get", () -> x.get(9, 9));
        }
        compareOctets(x, packer);
        x.read();
        for (int i = 0; i < 40; i++) {
            CHECK.same("get", x.get(1 + i * 6, 9), (i * 0x9E3779B1) & 511);
            CHECK.refusesArgument("get", () -> x.get(256, 5));
            CHECK.refusesArgument("get", () -> x.get(9, -1));
            CHECK.refusesState("put", () -> x.put(9, 9, 9));
        }
    }
}
