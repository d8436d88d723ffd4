import java.util.Random;

/**
 * "What throws changes nothing": two objects are used alike, but one is asked for calls that are refused in
 * between; every later answer of the two is the same.
 */
public final class RefusedCallsTest {
    private static final Check CHECK = new Check("RefusedCallsTest");

    /** A pair of objects, and what the document lets know of their state. */
    private static final class Twins {
        final KeyFrames asked = new KeyFrames();
        final KeyFrames left = new KeyFrames();
        boolean writing = false;
        boolean reading = false;
        int octets = 0;

        void same(String call, int one, int other) {
            CHECK.same(call + ", of the one that was refused calls", one, other);
        }

        void feed(int many, int a) {
            octets = left.feed(many, a, ~a, 3 * a, 5 * a);
            same("feed", asked.feed(many, a, ~a, 3 * a, 5 * a), octets);
            begin(false, false);
        }

        void erase() {
            same("erase", asked.erase(), left.erase());
            octets = 0;
            begin(false, false);
        }

        void write() {
            asked.write();
            left.write();
            octets = 0;
            begin(true, false);
        }

        void put(int p, int bits, int many) {
            octets = left.put(p, bits, many);
            same("put", asked.put(p, bits, many), octets);
        }

        void end() {
            octets = left.end();
            same("end", asked.end(), octets);
            begin(false, false);
        }

        void read() {
            asked.read();
            left.read();
            begin(false, true);
        }

        void get(int p, int many) {
            same("get", asked.get(p, many), left.get(p, many));
        }

        void decode() {
            same("decode", asked.decode(), left.decode());
            begin(false, false);
        }

        private void begin(boolean nowWriting, boolean nowReading) {
            writing = nowWriting;
            reading = nowReading;
        }

        void tell(int a, int b) {
            same("sample", asked.sample(a & 15, b & 15), left.sample(a & 15, b & 15));
            same("octet", asked.octet(a % 601), left.octet(a % 601));
            same("block", asked.block(a % 17, b % 18), left.block(a % 17, b % 18));
            same("count", asked.count(b % 7), left.count(b % 7));
        }
    }

    public static void main(String[] args) {
        CHECK.sentence("What throws changes nothing");
        eachRefusalInEachState();
        atRandom();
        CHECK.close();
    }

    /** All calls that the document refuses in this state; how many there were. */
    private static int refuse(Twins twins) {
        KeyFrames x = twins.asked;
        for (int many : new int[] {-1, 17}) {
            CHECK.refusesArgument("feed " + many, () -> x.feed(many, -1, -1, -1, -1));
        }
        CHECK.refusesArgument("put with 0", () -> x.put(0, -1, 9));
        CHECK.refusesArgument("put with 256", () -> x.put(256, -1, 9));
        CHECK.refusesArgument("put -1", () -> x.put(9, -1, -1));
        CHECK.refusesArgument("put 33", () -> x.put(9, -1, 33));
        CHECK.refusesArgument("get with 0", () -> x.get(0, 9));
        CHECK.refusesArgument("get with 256", () -> x.get(256, 9));
        CHECK.refusesArgument("get -1", () -> x.get(9, -1));
        CHECK.refusesArgument("get 33", () -> x.get(9, 33));
        CHECK.refusesArgument("block -1", () -> x.block(0, -1));
        CHECK.refusesArgument("block 18", () -> x.block(0, 18));
        CHECK.refusesArgument("count -1", () -> x.count(-1));
        CHECK.refusesArgument("count 7", () -> x.count(7));
        return 14 + refuseByState(twins);
    }

    private static int refuseByState(Twins twins) {
        KeyFrames x = twins.asked;
        int refused = 0;
        if (twins.octets > 584) {
            int tooMany = 601 - twins.octets;
            CHECK.refusesState("feed beyond 600", () -> x.feed(tooMany, -1, -1, -1, -1));
            refused++;
        }
        if (!twins.writing || twins.octets > 560) {
            CHECK.refusesState("put", () -> x.put(200, -1, 32));
            refused++;
        }
        if (!twins.writing) {
            CHECK.refusesState("end", () -> x.end());
            refused++;
        }
        if (!twins.reading) {
            CHECK.refusesState("get", () -> x.get(200, 32));
            refused++;
        }
        return refused;
    }

    private static void eachRefusalInEachState() {
        for (int state = 0; state < 9; state++) {
            Twins twins = new Twins();
            refuse(twins);
            come(twins, state);
            refuse(twins);
            leave(twins);
        }
    }

    /** New; with bytes; full; writing; and nearly full; and full; reading; and full; with a picture. */
    private static void come(Twins twins, int state) {
        int feeds = new int[] {0, 3, 37, 0, 0, 0, 3, 37, 4}[state];
        for (int i = 0; i < feeds; i++) {
            twins.feed(16, i * 0x01234567 + 0x55AA1234);
        }
        switch (state) {
            case 2 -> twins.feed(8, 0x00FF00FF);
            case 3 -> writeBytes(twins, 2);
            case 4 -> writeBytes(twins, 20);
            case 5 -> writeBytes(twins, 22);
            case 6, 7 -> {
                twins.read();
                twins.get(99, 21);
            }
            case 8 -> twins.decode();
            default -> {
            }
        }
    }

    /** 558 bytes by twenty puts, then 560, then 588. */
    private static void writeBytes(Twins twins, int puts) {
        twins.write();
        for (int i = 0; i < puts; i++) {
            twins.put(1, 0, i == 20 ? 3 : 32);
        }
        if (puts == 20) {
            twins.put(1, 0, 4);
        }
    }

    /** Goes on with what is begun, and looks at all that can be seen, bytes and picture. */
    private static void leave(Twins twins) {
        if (twins.writing) {
            if (twins.octets <= 560) {
                twins.put(77, 0x12345678, 32);
            }
            twins.end();
        }
        for (int i = 0; twins.reading && i < 20; i++) {
            twins.get(40 + i, 32);
        }
        for (int k = 0; k < 250; k++) {
            // Where there are more, the first and the last of them.
            int at = twins.octets < 250 || k < 125 ? k : twins.octets - 250 + k;
            twins.same("octet " + at, twins.asked.octet(at), twins.left.octet(at));
        }
        for (int what = 0; what < 7; what++) {
            twins.same("count " + what, twins.asked.count(what), twins.left.count(what));
        }
        for (int i = 0; i < 18; i++) {
            twins.same("block", twins.asked.block(0, i), twins.left.block(0, i));
            twins.same("sample", twins.asked.sample(i % 4, i / 4), twins.left.sample(i % 4, i / 4));
        }
        twins.decode();
        for (int i = 0; i < 64; i++) {
            twins.same("sample of all", twins.asked.sample(i % 8, i / 8), twins.left.sample(i % 8, i / 8));
        }
        twins.read();
        twins.get(128, 32);
    }

    private static void atRandom() {
        for (int seed = 0; seed < 400; seed++) {
            Random random = new Random(seed);
            Twins twins = new Twins();
            boolean full = seed % 3 == 0;
            int calls = 0;
            // The END of a run makes some 400 calls itself, and an object has 512.
            while (calls < 100) {
                if (random.nextInt(full ? 12 : 3) == 0) {
                    calls += refuse(twins);
                }
                step(twins, random, full);
                calls += 2;
            }
            leave(twins);
        }
    }

    /** One call that is not refused; a run that is to come to be full seldom begins anew. */
    private static void step(Twins twins, Random random, boolean full) {
        int p = 1 + random.nextInt(255);
        int kind = random.nextInt(full ? 60 : 12);
        if (kind == 0) {
            twins.erase();
        } else if (kind == 1) {
            twins.write();
        } else if (kind == 2 && !full) {
            twins.read();
        } else if (kind == 3 && !full) {
            twins.decode();
        } else if (kind == 4 && twins.writing) {
            twins.end();
        } else if (twins.writing && twins.octets <= 560) {
            twins.put(full ? 1 : p, full ? random.nextInt(4) : random.nextInt(), full ? 32 : random.nextInt(33));
        } else if (twins.reading) {
            twins.get(p, random.nextInt(33));
        } else if (twins.octets < 600 && !twins.writing) {
            twins.feed(Math.min(full ? 16 : random.nextInt(17), 600 - twins.octets), random.nextInt());
        } else {
            twins.tell(random.nextInt(1000), random.nextInt(1000));
        }
    }
}
