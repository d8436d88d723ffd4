import java.util.ArrayList;
import java.util.HashSet;
import java.util.List;
import java.util.Random;
import java.util.Set;
import java.util.TreeSet;

/** Runs of 512 calls of all kinds, each on one object, every answer compared with that of PlainFrames. */
public final class LongRunTest {
    private static final Check CHECK = new Check("LongRunTest");
    private static final int CALLS = 512;
    private static final int RUNS = 300;
    private static final String STATE = Call.throwing(IllegalStateException.class);
    private static final String ARGUMENT = Call.throwing(IllegalArgumentException.class);
    /** How often each call comes in a run at random; those that begin anew are seldom. */
    private static final String[] KINDS = {
        "feed", "feed", "feed", "put", "put", "put", "put", "put", "get", "get", "get", "get",
        "octet", "octet", "sample", "sample", "sample", "block", "block", "block", "count", "count"
    };
    private static final String[] SELDOM = {"erase", "write", "end", "read", "decode", "decode"};
    /** Numbers next to the ends of what the document tells. */
    private static final int[] ENDS = {
        Integer.MIN_VALUE, -1, 0, 1, 6, 7, 15, 16, 17, 18, 32, 33, 128, 255, 256, 599, 600, Integer.MAX_VALUE
    };

    private final String run;
    private final KeyFrames frames = new KeyFrames();
    private final PlainFrames plain = new PlainFrames();
    private final Set<String> called = new HashSet<>();
    private final Set<String> seen = new TreeSet<>();
    private int calls = 0;

    private LongRunTest(String run) {
        this.run = run;
    }

    public static void main(String[] args) {
        CHECK.sentence("An object is used for at most 512 calls after it has been made");
        oneOfAllInOrder();
        Set<String> seen = new TreeSet<>();
        for (int seed = 0; seed < RUNS; seed++) {
            seen.addAll(oneAtRandom(seed));
        }
        CHECK.same("in the runs there were all of " + seen, seen.size(), 8);
        CHECK.close();
    }

    private String call(String name, int... numbers) {
        Call call = new Call(name, numbers);
        String due = plain.answer(call);
        String got = call.answeredBy(frames);
        calls++;
        called.add(name);
        CHECK.text(run + ", call " + calls + ", " + call, got, due);
        note(due);
        return got;
    }

    /** What the run has come to. */
    private void note(String due) {
        if (due.equals(STATE) || due.equals(ARGUMENT)) {
            seen.add(due);
        }
        if (plain.size() == 600) {
            seen.add("full");
        }
        if (plain.isWriting() && plain.size() > 560) {
            seen.add("full, writing");
        }
        if (plain.isReading() && plain.size() > 560) {
            seen.add("full, reading");
        }
        if (plain.fours() > 0) {
            seen.add("filtered");
        }
        if (plain.hasPicture() && plain.size() == 0) {
            seen.add("a picture without its bytes");
        }
        if (plain.hasPicture() && plain.isWriting()) {
            seen.add("a picture, writing");
        }
    }

    private void close() {
        CHECK.same(run + ", calls", calls, CALLS);
        CHECK.same(run + ", kinds of calls", called.size(), Call.names().size());
    }

    private static void oneOfAllInOrder() {
        LongRunTest test = new LongRunTest("in order");
        test.lookAtAll(1, 1);
        test.refusals(true, true);
        test.pictureBothWays();
        test.lookAtAll(2, 2);
        test.upTo600();
        test.lookAtAll(1, 2);
        test.writeUpTo560();
        while (test.calls < CALLS) {
            test.call("octet", 3 * (CALLS - test.calls));
        }
        test.close();
    }

    /** All counts, the blocks' ways, two coefficients of each, and some samples, also beyond the picture. */
    private void lookAtAll(int columns, int rows) {
        for (int what = 0; what < 7; what++) {
            call("count", what);
        }
        for (int k = -1; k <= columns * rows; k++) {
            for (int what : new int[] {0, 1, 2, 4}) {
                call("block", k, what);
            }
        }
        for (int y = -1; y <= 4 * rows; y++) {
            for (int x = y % 2; x <= 4 * columns; x += 2) {
                call("sample", x, y);
            }
        }
    }

    private void refusals(boolean noWriting, boolean noReading) {
        CHECK.text("put with 0", call("put", 0, 1, 1), ARGUMENT);
        CHECK.text("get of 33", call("get", 1, 33), ARGUMENT);
        CHECK.text("feed of 17", call("feed", 17, 1, 2, 3, 4), ARGUMENT);
        CHECK.text("block, 18", call("block", 0, 18), ARGUMENT);
        CHECK.text("count of 7", call("count", 7), ARGUMENT);
        if (noWriting) {
            CHECK.text("put", call("put", 1, 1, 1), STATE);
            CHECK.text("end", call("end"), STATE);
        }
        if (noReading) {
            CHECK.text("get", call("get", 1, 1), STATE);
        }
    }

    /** Written bit by bit, read back bit by bit, and decoded. */
    private void pictureBothWays() {
        PlainPicture picture = new PlainPicture(2, 2, 7, 12)
                .with(0, PlainPicture.EVEN, 9, -1).with(1, PlainPicture.ACROSS, -6, 0, 2)
                .with(2, PlainPicture.DOWN).with(3, PlainPicture.SLOPE, 35, 0, 0, -5);
        picture.told[1][2][0] = 77;
        List<Call> puts = picture.packer().puts();
        call("write");
        for (Call put : puts) {
            call(put.name(), put.numbers());
        }
        refusals(false, true);
        call("end");
        call("read");
        for (Call put : puts) {
            int[] n = put.numbers();
            CHECK.text("the bits again", call("get", n[0], n[2]), Integer.toString(n[1]));
        }
        refusals(true, false);
        CHECK.text("blocks", call("decode"), "4");
        refusals(true, true);
    }

    private void upTo600() {
        call("erase");
        for (int i = 0; i < 37; i++) {
            call("feed", 16, i * 0x01030507, 0x10000 << (i % 7), ~i * 0x7531, i);
        }
        CHECK.text("599", call("feed", 7, 1, 2, 3, 4), "599");
        CHECK.text("601", call("feed", 2, 1, 2, 3, 4), STATE);
        CHECK.text("600", call("feed", 1, 5 << 24, 2, 3, 4), "600");
        CHECK.text("the last", call("octet", 599), "5");
        call("decode");
    }

    private void writeUpTo560() {
        call("write");
        int puts = 0;
        while (plain.size() <= 560 && puts < 25) {
            call("put", 1, 0, 32);
            puts++;
        }
        CHECK.text("beyond 560", call("put", 1, 0, 0), STATE);
        call("end");
        call("read");
        call("get", 1, 32);
    }

    /** Answers what the run came to. */
    private static Set<String> oneAtRandom(int seed) {
        Random random = new Random(seed);
        LongRunTest test = new LongRunTest("run " + seed);
        // Some runs hardly ever begin anew and take much at a time, so that they come to be full.
        boolean full = seed % 4 == 1;
        int seldom = full ? 150 : seed % 2 == 0 ? 6 : 25;
        List<String> due = new ArrayList<>(Call.names());
        while (test.calls < CALLS) {
            String kind = test.kind(random, seldom);
            // Each kind comes once at least, whatever the numbers at random.
            if (CALLS - test.calls <= due.size()) {
                kind = due.get(0);
            }
            due.remove(kind);
            test.callAtRandom(kind, random, full);
        }
        test.close();
        return test.seen;
    }

    private String kind(Random random, int seldom) {
        String[] from = random.nextInt(seldom) == 0 ? SELDOM : KINDS;
        String kind = from[random.nextInt(from.length)];
        boolean refused = kind.equals("put") && !plain.isWriting() || kind.equals("get") && !plain.isReading();
        boolean stops = kind.equals("feed") && (plain.isWriting() || plain.isReading());
        // What is refused, or stops what is begun, comes too, but not most of the time.
        return (refused || stops) && random.nextInt(12) > 0 ? "block" : kind;
    }

    private static int any(Random random, int from, int to) {
        return switch (random.nextInt(30)) {
            case 0 -> ENDS[random.nextInt(ENDS.length)];
            case 1 -> random.nextInt();
            case 2, 3 -> random.nextBoolean() ? from : to;
            default -> from + random.nextInt(to - from + 1);
        };
    }

    private void callAtRandom(String kind, Random random, boolean full) {
        int number = random.nextInt(3) == 0 ? -random.nextInt(2) : random.nextInt();
        int fed = full ? Math.min(16, 600 - plain.size()) : any(random, 0, 16);
        switch (kind) {
            case "feed" -> call(kind, fed, number, random.nextInt(), ~number, random.nextInt());
            case "put" -> {
                if (full) {
                    call(kind, 1, number & 1, 32);
                } else {
                    call(kind, any(random, 1, 255), number, any(random, 0, 32));
                }
            }
            case "get" -> call(kind, any(random, 1, 255), any(random, 0, 32));
            case "octet" -> call(kind, any(random, 0, Math.max(1, plain.size())));
            case "sample" -> call(kind, any(random, 0, 15), any(random, 0, 15));
            case "block" -> call(kind, any(random, 0, 15), any(random, 0, 17));
            case "count" -> call(kind, any(random, 0, 6));
            default -> call(kind);
        }
    }
}
