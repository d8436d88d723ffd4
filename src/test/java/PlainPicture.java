import java.util.Arrays;

/**
 * A picture as a test wants it, or as bytes tell it: packs it, and tells which samples are due, by the
 * document's words.
 */
final class PlainPicture {
    static final int EVEN = 0;
    static final int DOWN = 1;
    static final int ACROSS = 2;
    static final int SLOPE = 3;

    private static final int[] BANDS = {0, 1, 2, 3, 6, 4, 5, 6, 6, 6, 6, 6, 6, 6, 6, 7};
    private static final int[] ZIGZAG = {0, 1, 4, 8, 5, 2, 3, 6, 9, 12, 13, 10, 7, 11, 14, 15};
    private static final int[][] EXTRA = {
        {159}, {165, 145}, {173, 148, 140}, {176, 155, 140, 135}, {180, 157, 141, 134, 130},
        {254, 254, 243, 230, 196, 177, 153, 140, 133, 130, 129}
    };
    private static final int[] LEAST = {5, 7, 11, 19, 35, 67};
    /** From P 2 on, for a bit 0 and a bit 1: the next P, or below 0 a size of 1 to 4 or a row of EXTRA, from 5. */
    private static final int[][] TREE = {
        {}, {}, {-1, 3}, {4, 6}, {-2, 5}, {-3, -4}, {7, 8}, {-5, -6}, {9, 10}, {-7, -8}, {-9, -10}
    };

    final int columns;
    final int rows;
    final int q;
    final int level;
    /** By band, context and i; NOT_TOLD stays at 128. */
    final int[][][] told = new int[8][3][11];
    final int[] ways;
    final int[] read;
    final int[][] coefficients;
    /** Fours that the filter changes; known once samples() has been asked for. */
    int foursChanged = 0;

    static final int NOT_TOLD = -1;

    PlainPicture(int columns, int rows, int q, int level) {
        this.columns = columns;
        this.rows = rows;
        this.q = q;
        this.level = level;
        for (int[][] band : told) {
            for (int[] context : band) {
                Arrays.fill(context, NOT_TOLD);
            }
        }
        ways = new int[columns * rows];
        read = new int[columns * rows];
        coefficients = new int[columns * rows][16];
    }

    /** Gives block k its way and coefficients; as many are read as are given, and the last is not 0. */
    PlainPicture with(int k, int way, int... given) {
        ways[k] = way;
        read[k] = given.length;
        coefficients[k] = Arrays.copyOf(given, 16);
        return this;
    }

    int howManyTold() {
        int many = 0;
        for (int[][] band : told) {
            for (int[] context : band) {
                for (int p : context) {
                    many += p == NOT_TOLD ? 0 : 1;
                }
            }
        }
        return many;
    }

    int[] pack() {
        return packer().octets();
    }

    /** One that all bits of the picture have been given to. */
    Packer packer() {
        Packer packer = new Packer();
        packer.bits(128, columns - 1, 2);
        packer.bits(128, rows - 1, 2);
        packer.bits(128, q, 7);
        packer.bits(128, level, 6);
        for (int[][] band : told) {
            for (int[] context : band) {
                for (int p : context) {
                    packer.bit(250, p == NOT_TOLD ? 0 : 1);
                    if (p != NOT_TOLD) {
                        packer.bits(128, p, 8);
                    }
                }
            }
        }
        for (int k = 0; k < ways.length; k++) {
            packWay(packer, ways[k]);
            packCoefficients(packer, k);
        }
        return packer;
    }

    private static void packWay(Packer packer, int way) {
        packer.bit(112, way == EVEN ? 0 : 1);
        if (way != EVEN) {
            packer.bit(86, way == DOWN ? 0 : 1);
        }
        if (way >= ACROSS) {
            packer.bit(140, way == ACROSS ? 0 : 1);
        }
    }

    private int someIn(int k) {
        return Arrays.stream(coefficients[k]).anyMatch(c -> c != 0) ? 1 : 0;
    }

    private int probability(int position, int context, int i) {
        int p = told[BANDS[position]][context][i];
        return p == NOT_TOLD ? 128 : Math.max(p, 1);
    }

    private void packCoefficients(Packer packer, int k) {
        int context = firstContext(k);
        boolean behindZero = false;
        for (int position = 0; position < 16; position++) {
            if (!behindZero) {
                packer.bit(probability(position, context, 0), position < read[k] ? 1 : 0);
            }
            if (position >= read[k]) {
                return;
            }
            int coefficient = coefficients[k][position];
            int[] p = new int[11];
            for (int i = 0; i < 11; i++) {
                p[i] = probability(position, context, i);
            }
            packer.bit(p[1], coefficient == 0 ? 0 : 1);
            if (coefficient != 0) {
                packSize(packer, p, Math.abs(coefficient));
                packer.bit(128, coefficient < 0 ? 1 : 0);
            }
            behindZero = coefficient == 0;
            context = Math.min(2, Math.abs(coefficient));
        }
    }

    private static void packSize(Packer packer, int[] p, int size) {
        packer.bit(p[2], size > 1 ? 1 : 0);
        if (size == 1) {
            return;
        }
        packer.bit(p[3], size > 4 ? 1 : 0);
        if (size <= 4) {
            packer.bit(p[4], size > 2 ? 1 : 0);
            if (size > 2) {
                packer.bit(p[5], size - 3);
            }
            return;
        }
        int kind = 5;
        while (LEAST[kind] > size) {
            kind--;
        }
        packer.bit(p[6], kind > 1 ? 1 : 0);
        if (kind <= 1) {
            packer.bit(p[7], kind);
        } else {
            packer.bit(p[8], kind > 3 ? 1 : 0);
            packer.bit(kind > 3 ? p[10] : p[9], kind % 2);
        }
        int added = size - LEAST[kind];
        for (int i = 0; i < EXTRA[kind].length; i++) {
            packer.bit(EXTRA[kind][i], (added >> (EXTRA[kind].length - 1 - i)) & 1);
        }
    }

    /** The picture that these bits are; whatever bits come, they are one. */
    static PlainPicture unpacked(Unpacker bits) {
        int columns = 1 + bits.bits(128, 2);
        int rows = 1 + bits.bits(128, 2);
        int q = bits.bits(128, 7);
        PlainPicture picture = new PlainPicture(columns, rows, q, bits.bits(128, 6));
        for (int i = 0; i < 264; i++) {
            picture.told[i / 33][i / 11 % 3][i % 11] = bits.bit(250) == 1 ? bits.bits(128, 8) : NOT_TOLD;
        }
        for (int k = 0; k < columns * rows; k++) {
            int way = bits.bit(112);
            way += way == 1 ? bits.bit(86) : 0;
            way += way == 2 ? bits.bit(140) : 0;
            picture.ways[k] = way;
            picture.read[k] = picture.unpackCoefficients(bits, k);
        }
        return picture;
    }

    private int firstContext(int k) {
        return (k % columns > 0 ? someIn(k - 1) : 0) + (k >= columns ? someIn(k - columns) : 0);
    }

    private int unpackCoefficients(Unpacker bits, int k) {
        int context = firstContext(k);
        for (int position = 0; position < 16; position++) {
            boolean behindZero = position > 0 && coefficients[k][position - 1] == 0;
            if (!behindZero && bits.bit(probability(position, context, 0)) == 0) {
                return position;
            }
            int size = 0;
            if (bits.bit(probability(position, context, 1)) == 1) {
                size = unpackSize(bits, position, context);
                coefficients[k][position] = bits.bit(128) == 1 ? -size : size;
            }
            context = Math.min(2, size);
        }
        return 16;
    }

    private int unpackSize(Unpacker bits, int position, int context) {
        int at = 2;
        while (at > 0) {
            at = TREE[at][bits.bit(probability(position, context, at))];
        }
        if (-at < 5) {
            return -at;
        }
        int added = 0;
        for (int p : EXTRA[-at - 5]) {
            added = 2 * added + bits.bit(p);
        }
        return LEAST[-at - 5] + added;
    }

    /** By y and x. */
    int[][] samples() {
        // One row more above and one column more at the left hold what stands in for missing neighbours.
        int[][] edged = new int[4 * rows + 1][4 * columns + 1];
        for (int[] row : edged) {
            row[0] = 129;
        }
        Arrays.fill(edged[0], 127);
        for (int k = 0; k < ways.length; k++) {
            rebuild(edged, 4 * (k % columns) + 1, 4 * (k / columns) + 1, k);
        }
        int[][] samples = new int[4 * rows][];
        for (int y = 0; y < samples.length; y++) {
            samples[y] = Arrays.copyOfRange(edged[y + 1], 1, 4 * columns + 1);
        }
        foursChanged = level > 0 ? filter(samples) : 0;
        return samples;
    }

    private void rebuild(int[][] edged, int left, int top, int k) {
        long[][] difference = transformed(k);
        int even = 4;
        for (int i = 0; i < 4; i++) {
            even += edged[top - 1][left + i] + edged[top + i][left - 1];
        }
        for (int y = top; y < top + 4; y++) {
            for (int x = left; x < left + 4; x++) {
                int above = edged[top - 1][x];
                int across = edged[y][left - 1];
                int slope = Math.min(255, Math.max(0, across + above - edged[top - 1][left - 1]));
                int guessed = new int[] {even / 8, above, across, slope}[ways[k]];
                edged[y][x] = (int) Math.min(255, Math.max(0, guessed + difference[y - top][x - left]));
            }
        }
    }

    private long[][] transformed(int k) {
        long[][] grid = new long[4][4];
        for (int position = 0; position < 16; position++) {
            int place = ZIGZAG[position];
            int factor = place == 0 ? 4 + q : 4 + q + q / 2;
            grid[place / 4][place % 4] = (long) coefficients[k][position] * factor;
        }
        for (int x = 0; x < 4; x++) {
            long[] column = four(grid[0][x], grid[1][x], grid[2][x], grid[3][x]);
            for (int y = 0; y < 4; y++) {
                grid[y][x] = column[y];
            }
        }
        for (int y = 0; y < 4; y++) {
            grid[y] = four(grid[y][0], grid[y][1], grid[y][2], grid[y][3]);
            for (int x = 0; x < 4; x++) {
                grid[y][x] = Math.floorDiv(grid[y][x] + 4, 8);
            }
        }
        return grid;
    }

    private static long[] four(long i0, long i1, long i2, long i3) {
        long c = h(i1) - m(i3);
        long d = m(i1) + h(i3);
        return new long[] {i0 + i2 + d, i0 - i2 + c, i0 - i2 - c, i0 + i2 - d};
    }

    private static long m(long x) {
        return x + Math.floorDiv(x * 20091, 65536);
    }

    private static long h(long x) {
        return Math.floorDiv(x * 35468, 65536);
    }

    private int filter(int[][] samples) {
        int changed = 0;
        for (int k = 0; k < ways.length; k++) {
            int x = 4 * (k % columns);
            int y = 4 * (k / columns);
            for (int i = 0; i < 4 && x > 0; i++) {
                int[] row = samples[y + i];
                int[] four = {row[x - 2], row[x - 1], row[x], row[x + 1]};
                changed += filterFour(four) ? 1 : 0;
                row[x - 1] = four[1];
                row[x] = four[2];
            }
            for (int i = 0; i < 4 && y > 0; i++) {
                int at = x + i;
                int[] four = {samples[y - 2][at], samples[y - 1][at], samples[y][at], samples[y + 1][at]};
                changed += filterFour(four) ? 1 : 0;
                samples[y - 1][at] = four[1];
                samples[y][at] = four[2];
            }
        }
        return changed;
    }

    private boolean filterFour(int[] four) {
        if (2 * Math.abs(four[1] - four[2]) + Math.abs(four[0] - four[3]) / 2 > 2 * level + 4) {
            return false;
        }
        int a = l(l(four[0] - four[3]) + 3 * (four[2] - four[1]));
        int q0 = l(four[2] - 128 - Math.floorDiv(l(a + 4), 8)) + 128;
        int p0 = l(four[1] - 128 + Math.floorDiv(l(a + 3), 8)) + 128;
        boolean changed = q0 != four[2] || p0 != four[1];
        four[1] = p0;
        four[2] = q0;
        return changed;
    }

    private static int l(int x) {
        return Math.min(127, Math.max(-128, x));
    }
}
