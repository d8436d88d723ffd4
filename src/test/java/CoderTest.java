import java.util.Random;

/** Promises 4 (write), 5 (put), 6 (end), 7 (read) and 8 (get). */
public final class CoderTest {
    private static final Check CHECK = new Check("CoderTest");

    public static void main(String[] args) {
        writeBegins();
        putTakesTheLowestBits();
        endOnceOnly();
        bothWaysAtRandom();
        readBegins();
        refusalsChangeNothing();
        CHECK.close();
    }

    private static void writeBegins() {
        KeyFrames x = new KeyFrames();
        x.feed(3, -1, 0, 0, 0);
        x.read();
        x.write();
        CHECK.same("no bytes", x.octet(0), -1);
        CHECK.refusesState("reading is over", () -> x.get(128, 1));
        CHECK.same("24 shifts are one byte", x.put(128, 0, 25), 1);
        x.write();
        CHECK.same("begun anew", x.put(128, 0, 24), 0);
        CHECK.same("one more", x.put(128, 0, 1), 1);
        CHECK.same("eight more", x.put(128, 0, 8), 2);
    }

    private static void putTakesTheLowestBits() {
        KeyFrames x = new KeyFrames();
        x.write();
        x.put(128, 0xFFFFFF05, 4);
        x.put(128, 0x12345678, 32);
        x.put(77, 1, 0);
        x.end();
        x.read();
        CHECK.same("four bits", x.get(128, 4), 5);
        CHECK.same("all bits", x.get(128, 32), 0x12345678);
        x.write();
        for (int i = 0; i < 8; i++) {
            x.put(128, i == 0 || i == 7 ? 1 : 0, 1);
        }
        x.end();
        x.read();
        CHECK.same("single bits", x.get(128, 8), 0x81);
    }

    private static void endOnceOnly() {
        KeyFrames x = new KeyFrames();
        CHECK.refusesState("end before", () -> x.end());
        x.write();
        x.end();
        CHECK.refusesState("end twice", () -> x.end());
        CHECK.refusesState("put behind the end", () -> x.put(128, 0, 1));
        CHECK.same("nothing more came", x.octet(4), -1);
        x.read();
        CHECK.refusesState("end while reading", () -> x.end());
        CHECK.refusesState("put while reading", () -> x.put(128, 0, 1));
        CHECK.refusesArgument("a wrong put while reading", () -> x.put(0, 0, 1));
        CHECK.same("reading goes on", x.get(128, 3), 0);
    }

    private static void bothWaysAtRandom() {
        Random random = new Random(1);
        for (int run = 0; run < 200; run++) {
            KeyFrames x = new KeyFrames();
            Packer packer = new Packer();
            int calls = random.nextInt(60);
            int[] p = new int[calls];
            int[] bits = new int[calls];
            int[] many = new int[calls];
            x.write();
            int written = 0;
            int taken = 0;
            while (taken < calls && written <= 560) {
                p[taken] = random.nextInt(3) == 0 ? 1 + 254 * random.nextInt(2) : 1 + random.nextInt(255);
                bits[taken] = random.nextInt(4) == 0 ? -random.nextInt(2) : random.nextInt();
                many[taken] = random.nextInt(33);
                written = putBoth(x, packer, p[taken], bits[taken], many[taken]);
                taken++;
            }
            compareOctets(x, packer);
            x.read();
            for (int i = 0; i < taken; i++) {
                int due = many[i] == 32 ? bits[i] : bits[i] & ((1 << many[i]) - 1);
                CHECK.same("run " + run + " get " + i, x.get(p[i], many[i]), due);
            }
        }
    }

    private static int putBoth(KeyFrames x, Packer packer, int p, int bits, int many) {
        packer.bits(p, bits, many);
        int written = x.put(p, bits, many);
        CHECK.same("bytes behind put", written, packer.written());
        return written;
    }

    /** Ends the writing. An object has 512 calls, so at most 300 of its bytes are looked at. */
    private static void compareOctets(KeyFrames x, Packer packer) {
        int[] due = packer.octets();
        CHECK.same("bytes behind end", x.end(), due.length);
        for (int k = 0; k < Math.min(due.length, 300); k++) {
            CHECK.same("octet " + k, x.octet(k), due[k]);
        }
    }

    private static void readBegins() {
        KeyFrames x = new KeyFrames();
        CHECK.refusesState("get before", () -> x.get(128, 1));
        x.feed(3, 0x5A3C0000, 0, 0, 0);
        x.read();
        int first = x.get(128, 8);
        CHECK.same("a byte", first, 0x5A);
        x.read();
        CHECK.same("from the first again", x.get(128, 8), first);
        CHECK.same("none of them", x.get(3, 0), 0);
        CHECK.same("the bytes stay", x.octet(0), 0x5A);
        x.write();
        x.put(128, 0, 8);
        x.read();
        CHECK.refusesState("writing is over", () -> x.put(128, 0, 1));
        CHECK.refusesState("so no end", () -> x.end());
    }

    private static void refusalsChangeNothing() {
        KeyFrames x = new KeyFrames();
        Packer packer = new Packer();
        x.write();
        for (int i = 0; i < 40; i++) {
            putBoth(x, packer, 1 + i * 6, i * 0x9E3779B1, 9);
            CHECK.refusesArgument("put", () -> x.put(0, -1, 5));
            CHECK.refusesArgument("put", () -> x.put(9, -1, 33));
            CHECK.refusesState("get", () -> x.get(9, 9));
        }
        compareOctets(x, packer);
        x.read();
        for (int i = 0; i < 40; i++) {
            CHECK.same("get", x.get(1 + i * 6, 9), (i * 0x9E3779B1) & 511);
            CHECK.refusesArgument("get", () -> x.get(256, 5));
            CHECK.refusesArgument("get", () -> x.get(9, -1));
            CHECK.refusesState("put", () -> x.put(9, 9, 9));
        }
    }
}
