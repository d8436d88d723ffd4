/** Pictures of one plane in blocks of four by four, packed by a coder of single bits. */
public final class KeyFrames {
    public static final int NONE = -1;

    private static final int MOST_OCTETS = 600;
    private static final int MOST_OCTETS_BEFORE_PUT = 560;
    private static final int MOST_FED = 16;
    private static final int MOST_BITS = 32;

    private static final int IDLE = 0;
    private static final int WRITING = 1;
    private static final int READING = 2;

    private final Octets octets;
    private final BitWriter writer;
    private final BitReader reader;
    private final Picture picture;
    /** Writing and reading share one coder, so at most one of them is begun. */
    private int begun;

    public KeyFrames() {
        octets = new Octets();
        writer = new BitWriter(octets);
        reader = new BitReader(octets);
        picture = new Picture();
        begun = IDLE;
    }

    public int feed(int many, int a, int b, int c, int d) throws IllegalArgumentException, IllegalStateException {
        if (many < 0 || many > MOST_FED) {
            throw new IllegalArgumentException("many is not 0 .. 16");
        }
        if (octets.size() + many > MOST_OCTETS) {
            throw new IllegalStateException("there would be more than 600 bytes");
        }
        begun = IDLE;
        for (int i = 0; i < many; i++) {
            int four = i < 4 ? a : i < 8 ? b : i < 12 ? c : d;
            octets.append(four >>> (24 - 8 * (i % 4)));
        }
        return octets.size();
    }

    public int erase() {
        int before = octets.size();
        octets.clear();
        begun = IDLE;
        return before;
    }

    public void write() {
        octets.clear();
        writer.start();
        begun = WRITING;
    }

    public int put(int p, int bits, int many) throws IllegalArgumentException, IllegalStateException {
        checkBits(p, many);
        if (begun != WRITING) {
            throw new IllegalStateException("writing is not begun");
        }
        if (octets.size() > MOST_OCTETS_BEFORE_PUT) {
            throw new IllegalStateException("there are more than 560 bytes");
        }
        for (int i = many - 1; i >= 0; i--) {
            writer.writeBit(p, (bits >>> i) & 1);
        }
        return octets.size();
    }

    public int end() throws IllegalStateException {
        if (begun != WRITING) {
            throw new IllegalStateException("writing is not begun");
        }
        writer.finish();
        begun = IDLE;
        return octets.size();
    }

    public void read() {
        reader.start();
        begun = READING;
    }

    public int get(int p, int many) throws IllegalArgumentException, IllegalStateException {
        checkBits(p, many);
        if (begun != READING) {
            throw new IllegalStateException("reading is not begun");
        }
        return reader.readBits(p, many);
    }

    public int decode() {
        reader.start();
        picture.readFrom(reader);
        begun = IDLE;
        return picture.blocks();
    }

    public int sample(int x, int y) {
        return picture.sampleAt(x, y);
    }

    public int block(int k, int what) throws IllegalArgumentException {
        if (what < 0 || what >= 2 + Picture.POSITIONS) {
            throw new IllegalArgumentException("what is not 0 .. 17");
        }
        if (what >= 2) {
            return picture.coefficientOf(k, what - 2);
        }
        return what == 0 ? picture.wayOf(k) : picture.coefficientsReadOf(k);
    }

    public int count(int what) throws IllegalArgumentException {
        switch (what) {
            case 0:
                return picture.columns;
            case 1:
                return picture.rows;
            case 2:
                return picture.q;
            case 3:
                return picture.level;
            case 4:
                return picture.toldAnew;
            case 5:
                return picture.octetsBeyond;
            case 6:
                return picture.foursChanged;
            default:
                throw new IllegalArgumentException("what is not 0 .. 6");
        }
    }

    public int octet(int k) {
        return k >= 0 && k < octets.size() ? octets.at(k) : NONE;
    }

    private static void checkBits(int p, int many) {
        if (p < 1 || p > 255) {
            throw new IllegalArgumentException("p is not 1 .. 255");
        }
        if (many < 0 || many > MOST_BITS) {
            throw new IllegalArgumentException("many is not 0 .. 32");
        }
    }

    private static int splitOf(int range, int p) {
        return 1 + (((range - 1) * p) >> 8);
    }

    private static int within(long number, int lowest, int highest) {
        return number < lowest ? lowest : number > highest ? highest : (int) number;
    }

    /** The bytes, each kept as 0 .. 255. */
    private static final class Octets {
        private final int[] held = new int[MOST_OCTETS];
        private int size = 0;

        int size() {
            return size;
        }

        void clear() {
            size = 0;
        }

        void append(int octet) {
            if (size < MOST_OCTETS) {
                held[size] = octet & 255;
                size++;
            }
        }

        /** A byte that is not there reads as 0. */
        int at(int k) {
            return k >= 0 && k < size ? held[k] : 0;
        }

        void addOneToLast() {
            int at = size - 1;
            while (at >= 0 && held[at] == 255) {
                held[at] = 0;
                at--;
            }
            if (at >= 0) {
                held[at]++;
            }
        }
    }

    private static final class BitWriter {
        private final Octets octets;
        private int bottom;
        private int range;
        private int shiftsLeft;

        BitWriter(Octets octets) {
            this.octets = octets;
            this.bottom = 0;
            this.range = 255;
            this.shiftsLeft = 24;
        }

        void start() {
            bottom = 0;
            range = 255;
            shiftsLeft = 24;
        }

        void writeBit(int p, int bit) {
            int split = splitOf(range, p);
            if (bit == 0) {
                range = split;
            } else {
                bottom += split;
                range -= split;
            }
            // A range is never below 1, so seven doublings always reach 128.
            for (int i = 0; i < 7 && range < 128; i++) {
                range <<= 1;
                shiftBottom();
            }
        }

        private void shiftBottom() {
            // The highest bit of an int is its sign.
            if (bottom < 0) {
                octets.addOneToLast();
            }
            bottom <<= 1;
            shiftsLeft--;
            if (shiftsLeft == 0) {
                octets.append(bottom >>> 24);
                bottom &= 0xFFFFFF;
                shiftsLeft = 8;
            }
        }

        void finish() {
            if (((bottom >>> (32 - shiftsLeft)) & 1) != 0) {
                octets.addOneToLast();
            }
            // The document moves by the rest modulo 8 and then by whole eights: in all by every shift left.
            bottom <<= shiftsLeft;
            for (int i = 0; i < 4; i++) {
                octets.append(bottom >>> 24);
                bottom <<= 8;
            }
        }
    }

    private static final class BitReader {
        /**
         * Bytes that no writer makes (the first one 255) let the value outgrow the range for ever, and every
         * bit is 1 from then on. Held at this ceiling the value still is above any range, and can't overflow.
         */
        private static final int CEILING = 1 << 24;

        private final Octets octets;
        private int value;
        private int range;
        private int shifts;
        private int next;

        BitReader(Octets octets) {
            this.octets = octets;
            this.value = 0;
            this.range = 255;
            this.shifts = 0;
            this.next = 0;
        }

        void start() {
            value = (octets.at(0) << 8) + octets.at(1);
            range = 255;
            shifts = 0;
            next = 2;
        }

        int readBit(int p) {
            int split = splitOf(range, p);
            int bit = value >= split << 8 ? 1 : 0;
            if (bit == 1) {
                range -= split;
                value -= split << 8;
            } else {
                range = split;
            }
            // A range is never below 1, so seven doublings always reach 128.
            for (int i = 0; i < 7 && range < 128; i++) {
                range <<= 1;
                value = Math.min(value << 1, CEILING);
                shifts++;
                if (shifts == 8) {
                    shifts = 0;
                    value += octets.at(next);
                    next++;
                }
            }
            return bit;
        }

        /** The first bit becomes the highest. */
        int readBits(int p, int many) {
            int number = 0;
            for (int i = 0; i < many; i++) {
                number = (number << 1) | readBit(p);
            }
            return number;
        }

        int readNumber(int many) {
            return readBits(128, many);
        }

        int octetsBeyond() {
            return Math.max(0, next - octets.size());
        }
    }

    /** The probabilities of a picture, and coefficients read by them. */
    private static final class CoefficientTree {
        private static final int CONTEXTS = 3;
        private static final int NODES = 11;
        private static final int PROBABILITIES = 8 * CONTEXTS * NODES;
        private static final int[] BANDS = {0, 1, 2, 3, 6, 4, 5, 6, 6, 6, 6, 6, 6, 6, 6, 7};
        /** Sizes from 5 on come in six classes: the least size of each, and the probabilities of what is added. */
        private static final int[] LEAST = {5, 7, 11, 19, 35, 67};
        private static final int[] EXTRA_FROM = {0, 1, 3, 6, 10, 15, 26};
        private static final int[] EXTRA = {
            159,
            165, 145,
            173, 148, 140,
            176, 155, 140, 135,
            180, 157, 141, 134, 130,
            254, 254, 243, 230, 196, 177, 153, 140, 133, 130, 129
        };

        private final int[] probabilities = new int[PROBABILITIES];

        /** Answers how many were told anew. */
        int readProbabilities(BitReader bits) {
            int toldAnew = 0;
            for (int i = 0; i < PROBABILITIES; i++) {
                probabilities[i] = 128;
                if (bits.readBit(250) == 1) {
                    probabilities[i] = Math.max(1, bits.readNumber(8));
                    toldAnew++;
                }
            }
            return toldAnew;
        }

        /** Reads one block's coefficients to places from first on, which hold 0 before; answers how many. */
        int readBlock(BitReader bits, int firstContext, int[] coefficients, int first) {
            int context = firstContext;
            boolean mayStop = true;
            for (int position = 0; position < Picture.POSITIONS; position++) {
                int node = (BANDS[position] * CONTEXTS + context) * NODES;
                if (mayStop && bits.readBit(probabilities[node]) == 0) {
                    return position;
                }
                int size = bits.readBit(probabilities[node + 1]) == 0 ? 0 : readSize(bits, node);
                if (size > 0) {
                    coefficients[first + position] = bits.readBit(128) == 1 ? -size : size;
                }
                context = Math.min(size, 2);
                mayStop = size != 0;
            }
            return Picture.POSITIONS;
        }

        private int readSize(BitReader bits, int node) {
            if (bits.readBit(probabilities[node + 2]) == 0) {
                return 1;
            }
            if (bits.readBit(probabilities[node + 3]) == 1) {
                return readLargeSize(bits, readSizeClass(bits, node));
            }
            if (bits.readBit(probabilities[node + 4]) == 0) {
                return 2;
            }
            return 3 + bits.readBit(probabilities[node + 5]);
        }

        private int readSizeClass(BitReader bits, int node) {
            if (bits.readBit(probabilities[node + 6]) == 0) {
                return bits.readBit(probabilities[node + 7]);
            }
            if (bits.readBit(probabilities[node + 8]) == 0) {
                return 2 + bits.readBit(probabilities[node + 9]);
            }
            return 4 + bits.readBit(probabilities[node + 10]);
        }

        private static int readLargeSize(BitReader bits, int sizeClass) {
            int added = 0;
            for (int i = EXTRA_FROM[sizeClass]; i < EXTRA_FROM[sizeClass + 1]; i++) {
                added = (added << 1) | bits.readBit(EXTRA[i]);
            }
            return LEAST[sizeClass] + added;
        }
    }

    /** Coefficients, laid in four rows, to differences from what was guessed. */
    private static final class Transform {
        private static final int[] PLACES = {0, 1, 4, 8, 5, 2, 3, 6, 9, 12, 13, 10, 7, 11, 14, 15};

        /** Large coefficients times the factors of the transform go beyond an int. */
        private final long[] grid = new long[16];

        void layOut(int[] coefficients, int first, int q) {
            int factor = 4 + q;
            for (int position = 0; position < Picture.POSITIONS; position++) {
                grid[PLACES[position]] = (long) coefficients[first + position] * factor;
                factor = 4 + q + q / 2;
            }
        }

        void turnBack() {
            for (int column = 0; column < 4; column++) {
                turnFour(column, 4);
            }
            for (int row = 0; row < 4; row++) {
                turnFour(4 * row, 1);
            }
            for (int i = 0; i < 16; i++) {
                grid[i] = (grid[i] + 4) >> 3;
            }
        }

        private void turnFour(int first, int step) {
            long i0 = grid[first];
            long i1 = grid[first + step];
            long i2 = grid[first + 2 * step];
            long i3 = grid[first + 3 * step];
            long a = i0 + i2;
            long b = i0 - i2;
            long c = timesH(i1) - timesM(i3);
            long d = timesM(i1) + timesH(i3);
            grid[first] = a + d;
            grid[first + step] = b + c;
            grid[first + 2 * step] = b - c;
            grid[first + 3 * step] = a - d;
        }

        // A shift to the right cuts downwards, a division would cut towards 0.
        private static long timesM(long x) {
            return x + ((x * 20091) >> 16);
        }

        private static long timesH(long x) {
            return (x * 35468) >> 16;
        }
    }

    /** The samples, row by row, in rows as long as the widest picture. */
    private static final class Plane {
        private static final int WIDTH = 16;
        private static final int ABOVE_ALL = 127;
        private static final int LEFT_OF_ALL = 129;

        private final int[] samples = new int[WIDTH * WIDTH];

        int at(int x, int y) {
            return samples[y * WIDTH + x];
        }

        private int above(int x, int top) {
            return top == 0 ? ABOVE_ALL : at(x, top - 1);
        }

        private int leftOf(int left, int y) {
            return left == 0 ? LEFT_OF_ALL : at(left - 1, y);
        }

        private int corner(int left, int top) {
            return top == 0 ? ABOVE_ALL : leftOf(left, top - 1);
        }

        /** The samples of the block at left, top: what its way guesses, and the differences added. */
        void rebuild(int left, int top, int way, long[] differences) {
            int even = evenOf(left, top);
            int corner = corner(left, top);
            for (int i = 0; i < 16; i++) {
                int x = left + i % 4;
                int y = top + i / 4;
                int guessed = even;
                if (way == Picture.DOWN) {
                    guessed = above(x, top);
                } else if (way == Picture.ACROSS) {
                    guessed = leftOf(left, y);
                } else if (way == Picture.SLOPE) {
                    guessed = within(leftOf(left, y) + above(x, top) - corner, 0, 255);
                }
                samples[y * WIDTH + x] = within(guessed + differences[i], 0, 255);
            }
        }

        private int evenOf(int left, int top) {
            int sum = 4;
            for (int i = 0; i < 4; i++) {
                sum += above(left + i, top) + leftOf(left, top + i);
            }
            return sum / 8;
        }

        /** Answers for how many fours a sample became another one. */
        int filterAll(int columns, int rows, int level) {
            int limit = 2 * level + 4;
            int changed = 0;
            for (int row = 0; row < rows; row++) {
                for (int column = 0; column < columns; column++) {
                    int first = 4 * (row * WIDTH + column);
                    if (column > 0) {
                        changed += filterEdge(first, WIDTH, 1, limit);
                    }
                    if (row > 0) {
                        changed += filterEdge(first, 1, WIDTH, limit);
                    }
                }
            }
            return changed;
        }

        private int filterEdge(int first, int along, int across, int limit) {
            int changed = 0;
            for (int i = 0; i < 4; i++) {
                if (filterFour(first + i * along, across, limit)) {
                    changed++;
                }
            }
            return changed;
        }

        private boolean filterFour(int at, int across, int limit) {
            int p1 = samples[at - 2 * across] - 128;
            int p0 = samples[at - across] - 128;
            int q0 = samples[at] - 128;
            int q1 = samples[at + across] - 128;
            if (2 * Math.abs(p0 - q0) + Math.abs(p1 - q1) / 2 > limit) {
                return false;
            }
            int a = small(small(p1 - q1) + 3 * (q0 - p0));
            int newQ0 = small(q0 - (small(a + 4) >> 3));
            int newP0 = small(p0 + (small(a + 3) >> 3));
            samples[at] = newQ0 + 128;
            samples[at - across] = newP0 + 128;
            return newQ0 != q0 || newP0 != p0;
        }

        private static int small(int x) {
            return within(x, -128, 127);
        }
    }

    private static final class Picture {
        static final int POSITIONS = 16;
        static final int EVEN = 0;
        static final int DOWN = 1;
        static final int ACROSS = 2;
        static final int SLOPE = 3;
        private static final int MOST_BLOCKS = 16;

        private final CoefficientTree tree = new CoefficientTree();
        private final Transform transform = new Transform();
        private final Plane plane = new Plane();
        private final int[] ways = new int[MOST_BLOCKS];
        private final int[] coefficientsRead = new int[MOST_BLOCKS];
        private final int[] coefficients = new int[MOST_BLOCKS * POSITIONS];
        private final boolean[] hasSome = new boolean[MOST_BLOCKS];
        private int columns = 0;
        private int rows = 0;
        private int q = 0;
        private int level = 0;
        private int toldAnew = 0;
        private int octetsBeyond = 0;
        private int foursChanged = 0;

        void readFrom(BitReader bits) {
            columns = 1 + bits.readNumber(2);
            rows = 1 + bits.readNumber(2);
            q = bits.readNumber(7);
            level = bits.readNumber(6);
            toldAnew = tree.readProbabilities(bits);
            for (int i = 0; i < coefficients.length; i++) {
                coefficients[i] = 0;
            }
            for (int row = 0; row < rows; row++) {
                for (int column = 0; column < columns; column++) {
                    int k = row * columns + column;
                    ways[k] = readWay(bits);
                    coefficientsRead[k] = tree.readBlock(bits, contextOf(column, row), coefficients, k * POSITIONS);
                    hasSome[k] = hasSomeNotZero(k);
                    rebuild(k, column, row);
                }
            }
            octetsBeyond = bits.octetsBeyond();
            foursChanged = level > 0 ? plane.filterAll(columns, rows, level) : 0;
        }

        private static int readWay(BitReader bits) {
            if (bits.readBit(112) == 0) {
                return EVEN;
            }
            if (bits.readBit(86) == 0) {
                return DOWN;
            }
            return bits.readBit(140) == 0 ? ACROSS : SLOPE;
        }

        private int contextOf(int column, int row) {
            int k = row * columns + column;
            int context = 0;
            if (column > 0 && hasSome[k - 1]) {
                context++;
            }
            if (row > 0 && hasSome[k - columns]) {
                context++;
            }
            return context;
        }

        private boolean hasSomeNotZero(int k) {
            for (int position = 0; position < POSITIONS; position++) {
                if (coefficients[k * POSITIONS + position] != 0) {
                    return true;
                }
            }
            return false;
        }

        private void rebuild(int k, int column, int row) {
            transform.layOut(coefficients, k * POSITIONS, q);
            transform.turnBack();
            plane.rebuild(4 * column, 4 * row, ways[k], transform.grid);
        }

        int blocks() {
            return columns * rows;
        }

        private boolean hasBlock(int k) {
            return k >= 0 && k < blocks();
        }

        int sampleAt(int x, int y) {
            boolean inside = x >= 0 && x < 4 * columns && y >= 0 && y < 4 * rows;
            return inside ? plane.at(x, y) : NONE;
        }

        int wayOf(int k) {
            return hasBlock(k) ? ways[k] : NONE;
        }

        int coefficientsReadOf(int k) {
            return hasBlock(k) ? coefficientsRead[k] : NONE;
        }

        /** A coefficient can be -1, so 0 stands for one that is not there, as the document says. */
        int coefficientOf(int k, int position) {
            return hasBlock(k) ? coefficients[k * POSITIONS + position] : 0;
        }
    }
}
