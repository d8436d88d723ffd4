import java.util.Random;
import java.util.function.IntSupplier;

/**
 * Any numbers in any state: IllegalArgument where a number is none of those told, else IllegalState where the
 * state does not allow the call, else an answer within its bounds, and never another exception.
 */
public final class AnyNumbersTest {
    private static final Check CHECK = new Check("AnyNumbersTest");
    private static final int[] EDGES = {
        -1, 0, 1, 2, 6, 7, 15, 16, 17, 18, 31, 32, 33, 128, 255, 256, 599, 600, 601,
        Integer.MIN_VALUE, Integer.MIN_VALUE + 1, Integer.MAX_VALUE - 1, Integer.MAX_VALUE
    };

    private final Random random;
    private final KeyFrames frames = new KeyFrames();
    private boolean writing = false;
    private boolean reading = false;
    private int octets = 0;

    private AnyNumbersTest(int seed) {
        random = new Random(seed);
    }

    public static void main(String[] args) {
        CHECK.sentence("IllegalArgument is thrown where a number is none of those told here");
        for (int seed = 0; seed < 1000; seed++) {
            AnyNumbersTest test = new AnyNumbersTest(seed);
            // Some runs are kept from beginning anew, so that they come to be full.
            boolean full = seed % 2 == 0;
            for (int call = 0; call < 512; call++) {
                test.call(full && call > 5 ? test.random.nextInt(7) : test.random.nextInt(12));
            }
        }
        CHECK.close();
    }

    private int any() {
        return random.nextInt(4) == 0 ? random.nextInt() : EDGES[random.nextInt(EDGES.length)];
    }

    private int most(int usual) {
        return random.nextInt(3) == 0 ? any() : usual;
    }

    private void call(int kind) {
        int a = any();
        int b = any();
        switch (kind) {
            case 0 -> put(most(1), b, most(32));
            case 1 -> get(most(255), most(7));
            case 2 -> answers("block", a >= 0 && a <= 17, true, -2114, 2114, () -> frames.block(most(0), a));
            case 3 -> answers("count", a >= 0 && a <= 6, true, 0, 10000, () -> frames.count(a));
            case 4 -> answers("sample", true, true, -1, 255, () -> frames.sample(a, b));
            case 5 -> answers("octet", true, true, -1, 255, () -> frames.octet(a));
            case 6 -> {
                if (!writing) {
                    feed(most(16), a, b);
                }
            }
            case 7 -> {
                answers("erase", true, true, octets, octets, frames::erase);
                begin(false, false, 0);
            }
            case 8 -> {
                frames.write();
                begin(true, false, 0);
            }
            case 9 -> {
                frames.read();
                begin(false, true, octets);
            }
            case 10 -> {
                answers("decode", true, true, 1, 16, frames::decode);
                begin(false, false, octets);
            }
            default -> end();
        }
    }

    private void feed(int many, int a, int b) {
        boolean told = many >= 0 && many <= 16;
        boolean allowed = told && octets + many <= 600;
        answers("feed", told, allowed, octets + many, octets + many, () -> frames.feed(many, a, b, ~a, ~b));
        if (allowed) {
            begin(false, false, octets + many);
        }
    }

    private void put(int p, int bits, int many) {
        boolean told = p >= 1 && p <= 255 && many >= 0 && many <= 32;
        int answer = answers("put", told, writing && octets <= 560, octets, octets + 28, () -> frames.put(p, bits, many));
        octets = told && writing && octets <= 560 ? answer : octets;
    }

    private void get(int p, int many) {
        boolean told = p >= 1 && p <= 255 && many >= 0 && many <= 32;
        int lowest = many == 32 ? Integer.MIN_VALUE : 0;
        int highest = many >= 31 ? Integer.MAX_VALUE : (1 << Math.max(many, 0)) - 1;
        answers("get", told, reading, lowest, highest, () -> frames.get(p, many));
    }

    private void end() {
        answers("end", true, writing, octets + 4, octets + 4, frames::end);
        if (writing) {
            begin(false, false, octets + 4);
        }
    }

    private void begin(boolean nowWriting, boolean nowReading, int nowOctets) {
        writing = nowWriting;
        reading = nowReading;
        octets = nowOctets;
    }

    private static int answers(String what, boolean told, boolean allowed, int lowest, int highest, IntSupplier call) {
        if (!told) {
            CHECK.refusesArgument(what, call::getAsInt);
        } else if (!allowed) {
            CHECK.refusesState(what, call::getAsInt);
        } else {
            int answer = call.getAsInt();
            CHECK.isTrue(what + " answered " + answer, answer >= lowest && answer <= highest);
            return answer;
        }
        return 0;
    }
}
