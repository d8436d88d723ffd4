import java.util.ArrayList;
import java.util.List;

/** The whole class once more, word by word from the document and without a thought of speed or room. */
final class PlainFrames {
    private static final String ARGUMENT = Call.throwing(IllegalArgumentException.class);
    private static final String STATE = Call.throwing(IllegalStateException.class);

    private final List<Integer> octets = new ArrayList<>();
    private boolean writing = false;
    private long bottom;
    private int range;
    private int count;
    /** Null where reading is not begun. */
    private Unpacker reading = null;
    /** Null before one. */
    private PlainPicture picture = null;
    private int[][] samples;
    private int beyond;

    int size() {
        return octets.size();
    }

    boolean isWriting() {
        return writing;
    }

    boolean isReading() {
        return reading != null;
    }

    boolean hasPicture() {
        return picture != null;
    }

    int fours() {
        return picture == null ? 0 : picture.foursChanged;
    }

    String answer(Call call) {
        int[] n = call.numbers();
        return switch (call.name()) {
            case "feed" -> feed(n);
            case "erase" -> erase();
            case "write" -> write();
            case "put" -> put(n[0], n[1], n[2]);
            case "end" -> end();
            case "read" -> read();
            case "get" -> get(n[0], n[1]);
            case "decode" -> decode();
            case "sample" -> sample(n[0], n[1]);
            case "block" -> block(n[0], n[1]);
            case "count" -> count(n[0]);
            case "octet" -> text(n[0] >= 0 && n[0] < size() ? octets.get(n[0]) : KeyFrames.NONE);
            default -> throw new AssertionError(call + " is none of the face");
        };
    }

    private static String text(int answer) {
        return Integer.toString(answer);
    }

    private void nothingIsBegun() {
        writing = false;
        reading = null;
    }

    private String feed(int[] n) {
        if (n[0] < 0 || n[0] > 16) {
            return ARGUMENT;
        }
        if (size() + n[0] > 600) {
            return STATE;
        }
        nothingIsBegun();
        for (int i = 0; i < n[0]; i++) {
            octets.add(n[1 + i / 4] >> (24 - 8 * (i % 4)) & 255);
        }
        return text(size());
    }

    private String erase() {
        int before = size();
        octets.clear();
        nothingIsBegun();
        return text(before);
    }

    private String write() {
        erase();
        writing = true;
        bottom = 0;
        range = 255;
        count = 24;
        return Call.NOTHING;
    }

    private static boolean toldBits(int p, int many) {
        return p >= 1 && p <= 255 && many >= 0 && many <= 32;
    }

    private String put(int p, int bits, int many) {
        if (!toldBits(p, many)) {
            return ARGUMENT;
        }
        if (!writing || size() > 560) {
            return STATE;
        }
        for (int i = many - 1; i >= 0; i--) {
            writeBit(p, bits >> i & 1);
        }
        return text(size());
    }

    private void writeBit(int p, int bit) {
        int split = 1 + (range - 1) * p / 256;
        if (bit == 0) {
            range = split;
        } else {
            bottom += split;
            range -= split;
        }
        while (range < 128) {
            range *= 2;
            if (bottom >= 1L << 31) {
                addOne();
            }
            bottom = bottom * 2 % (1L << 32);
            count--;
            if (count == 0) {
                octets.add((int) (bottom / (1L << 24)));
                bottom %= 1L << 24;
                count = 8;
            }
        }
    }

    private void addOne() {
        int last = size() - 1;
        while (octets.get(last) == 255) {
            octets.set(last, 0);
            last--;
        }
        octets.set(last, octets.get(last) + 1);
    }

    private String end() {
        if (!writing) {
            return STATE;
        }
        if (bottom / (1L << (32 - count)) % 2 == 1) {
            addOne();
        }
        bottom = bottom * (1L << (count % 8)) % (1L << 32);
        for (int i = 0; i < count / 8; i++) {
            bottom = bottom * 256 % (1L << 32);
        }
        for (int i = 0; i < 4; i++) {
            octets.add((int) (bottom / (1L << 24)));
            bottom = bottom * 256 % (1L << 32);
        }
        nothingIsBegun();
        return text(size());
    }

    private Unpacker unpacker() {
        return new Unpacker(octets.stream().mapToInt(octet -> octet).toArray());
    }

    private String read() {
        nothingIsBegun();
        reading = unpacker();
        return Call.NOTHING;
    }

    private String get(int p, int many) {
        if (!toldBits(p, many)) {
            return ARGUMENT;
        }
        return reading == null ? STATE : text(reading.bits(p, many));
    }

    private String decode() {
        nothingIsBegun();
        Unpacker bits = unpacker();
        picture = PlainPicture.unpacked(bits);
        samples = picture.samples();
        beyond = bits.beyond();
        return text(picture.ways.length);
    }

    private String sample(int x, int y) {
        boolean inside = picture != null && y >= 0 && y < samples.length && x >= 0 && x < samples[y].length;
        return text(inside ? samples[y][x] : KeyFrames.NONE);
    }

    private String block(int k, int what) {
        if (what < 0 || what > 17) {
            return ARGUMENT;
        }
        if (picture == null || k < 0 || k >= picture.ways.length) {
            return text(what < 2 ? KeyFrames.NONE : 0);
        }
        return text(what == 0 ? picture.ways[k] : what == 1 ? picture.read[k] : picture.coefficients[k][what - 2]);
    }

    private String count(int what) {
        if (what < 0 || what > 6) {
            return ARGUMENT;
        }
        if (picture == null) {
            return text(0);
        }
        int[] counts = {
            picture.columns, picture.rows, picture.q, picture.level, picture.howManyTold(), beyond, picture.foursChanged
        };
        return text(counts[what]);
    }
}
