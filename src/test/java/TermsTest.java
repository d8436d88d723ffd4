import java.util.Random;

/** Terms: the sentences that name no edge (those that do have the EdgesTests), by numbers worked out by hand. */
public final class TermsTest {
    private static final Check CHECK = new Check("TermsTest");
    private static final int EVEN = PlainPicture.EVEN;
    private static final int DOWN = PlainPicture.DOWN;
    private static final int ACROSS = PlainPicture.ACROSS;
    private static final int SLOPE = PlainPicture.SLOPE;
    /** What P 0 .. P 10 are told as where a test tells them: no two alike. */
    private static final int[] P = {230, 50, 70, 90, 110, 130, 150, 170, 190, 210, 30};

    public static void main(String[] args) {
        bit0Written();
        bit1Written();
        readingAtFirst();
        numbers();
        numberThatIsTold();
        blocksRowByRow();
        ways();
        noMoreAndZeros();
        sizesTo4();
        sizesFrom5();
        fourNumbers();
        columnsThenRows();
        guessedAsTheOneAbove();
        guessedAsTheOneLeft();
        guessedBySlope();
        acrossAnEdge();
        CHECK.close();
    }

    private static void written(String what, int[] puts, int... due) {
        KeyFrames x = new KeyFrames();
        x.write();
        for (int i = 0; i < puts.length; i += 2) {
            x.put(puts[i], puts[i + 1], 1);
        }
        CHECK.same(what + ", bytes", x.end(), due.length);
        for (int k = 0; k < due.length; k++) {
            CHECK.same(what + ", octet " + k, x.octet(k), due[k]);
        }
    }

    private static void bit0Written() {
        CHECK.sentence("0: RANGE is SPLIT");
        // SPLIT is 1 + 254 * 200 / 256 = 199; of that range the next is 1 + 198 / 2 = 100, which a 1 adds.
        written("0 with 200", new int[] {200, 0, 128, 1}, 100, 0, 0, 0);
        // SPLIT is 100, doubled once 200: the next is 1 + 199 / 2 = 100, one doubling further down.
        written("0 with 100", new int[] {100, 0, 128, 1}, 50, 0, 0, 0);
    }

    private static void bit1Written() {
        CHECK.sentence("1: SPLIT is added to BOTTOM, RANGE is less by it");
        // SPLIT is 50, and 205 are left; the next is 1 + 204 / 2 = 103.
        written("1 with 50", new int[] {50, 1, 128, 1}, 153, 0, 0, 0);
        // SPLIT is 199, and 56 are left, doubled twice 224; the next is 1 + 223 / 2 = 112: 199 * 4 + 112 is 227 * 4.
        written("1 with 200", new int[] {200, 1, 128, 1}, 227, 0, 0, 0);
    }

    private static void readingAtFirst() {
        CHECK.sentence("VALUE is the first two bytes, RANGE 255, COUNT 0");
        // With 255 SPLIT is 254 of 255; a RANGE of 254 would have 253.
        CHECK.same("FD FF", Feeder.reading(0xFD, 0xFF).get(255, 1), 0);
        CHECK.same("FE 00", Feeder.reading(0xFE, 0x00).get(255, 1), 1);
        // A third byte of 80 is the seventeenth BIT, whatever an earlier reading left.
        KeyFrames x = Feeder.reading(0, 0, 0x80, 0);
        for (int bits = 0; bits < 20; bits++) {
            x.get(128, bits);
            x.read();
            CHECK.same("17 BITS", x.get(128, 17), 1);
            x.read();
        }
    }

    /** The NUMBERS of a picture as one, and no PROBABILITY told. */
    private static Packer begun(int numbers) {
        Packer packer = new Packer();
        packer.bits(128, numbers, 17);
        for (int i = 0; i < 264; i++) {
            packer.bit(250, 0);
        }
        return packer;
    }

    /** One BLOCK, and all PROBABILITIES told as P, in each BAND and CONTEXT alike. */
    private static Packer begunWithP() {
        Packer packer = new Packer();
        packer.bits(128, 0, 17);
        for (int i = 0; i < 264; i++) {
            packer.bit(250, 1);
            packer.bits(128, P[i % 11], 8);
        }
        return packer;
    }

    private static void numbers() {
        CHECK.sentence("A NUMBER of n bits: n BITS with 128, the highest first");
        Random random = new Random(41);
        for (int i = 0; i < 217; i++) {
            int number = i < 17 ? 1 << i : random.nextInt(1 << 17);
            KeyFrames x = Feeder.decoded(begun(number).octets());
            CHECK.same("COLUMNS", x.count(0), 1 + (number >> 15));
            CHECK.same("ROWS", x.count(1), 1 + (number >> 13 & 3));
            CHECK.same("Q", x.count(2), number >> 6 & 127);
            CHECK.same("LEVEL", x.count(3), number & 63);
        }
    }

    private static void numberThatIsTold() {
        CHECK.sentence("1: a NUMBER of 8 bits is that PROBABILITY");
        for (int told = 1; told <= 255; told++) {
            Packer packer = new Packer();
            packer.bits(128, 0, 17);
            for (int i = 0; i < 264; i++) {
                // P 1 of all BANDS in CONTEXT 0: a block of zeros asks for nothing else.
                boolean asked = i % 33 == 1;
                packer.bit(250, asked ? 1 : 0);
                if (asked) {
                    packer.bits(128, told, 8);
                }
            }
            packer.bits(112, 0, 1);
            packer.bit(128, 1);
            packer.bits(told, 0, 15);
            packer.bit(told, 1);
            packer.bit(128, 0);
            packer.bit(128, 1);
            KeyFrames x = Feeder.decoded(packer.octets());
            CHECK.same("told", x.count(4), 8);
            CHECK.same("sixteen with " + told, x.block(0, 1), 16);
            CHECK.same("the first with " + told, x.block(0, 2), 0);
            CHECK.same("the last with " + told, x.block(0, 17), -1);
        }
    }

    private static void blocksRowByRow() {
        CHECK.sentence("Then the BLOCKS, row by row");
        PlainPicture picture = new PlainPicture(2, 3, 0, 0);
        // Each block is 129 or as the one left of it, and 1, 2, 4, 8, 16 or 32 more.
        for (int k = 0; k < 6; k++) {
            picture.with(k, ACROSS, (2 << k) - 1);
        }
        KeyFrames x = Feeder.decoded(picture);
        int[] due = {130, 132, 133, 141, 145, 177};
        for (int k = 0; k < 6; k++) {
            CHECK.same("block " + k, x.block(k, 2), (2 << k) - 1);
            CHECK.flat("block " + k, x, k % 2, k / 2, due[k]);
        }
    }

    private static void ways() {
        CHECK.sentence("A BLOCK's WAY: a BIT with 112: 0: 0 EVEN; else one with 86: 0: 1 DOWN;"
                + " else one with 140: 0: 2 ACROSS, 1: 3 SLOPE");
        int[][] bits = {{112, 0}, {112, 1, 86, 0}, {112, 1, 86, 1, 140, 0}, {112, 1, 86, 1, 140, 1}};
        for (int seed = 0; seed < 100; seed++) {
            Random random = new Random(seed);
            Packer packer = begun(0b11_11_0000000_000000);
            int[] ways = random.ints(16, 0, 4).toArray();
            for (int way : ways) {
                for (int i = 0; i < bits[way].length; i += 2) {
                    packer.bit(bits[way][i], bits[way][i + 1]);
                }
                packer.bit(128, 0);
            }
            KeyFrames x = Feeder.decoded(packer.octets());
            for (int k = 0; k < 16; k++) {
                CHECK.same("way of " + k, x.block(k, 0), ways[k]);
                CHECK.same("read of " + k, x.block(k, 1), 0);
            }
        }
    }

    /** Steps of the tree: P and a digit, or a PROBABILITY by itself, then the BIT. */
    private static void steps(Packer packer, String steps) {
        for (String step : steps.split(" ")) {
            String[] parts = step.split(":");
            boolean isP = parts[0].startsWith("P");
            int number = Integer.parseInt(isP ? parts[0].substring(1) : parts[0]);
            packer.bit(isP ? P[number] : number, Integer.parseInt(parts[1]));
        }
    }

    private static void noMoreAndZeros() {
        CHECK.sentence("a BIT with P 0 (but not behind a 0): 0: no more of this BLOCK. P 1: 0: it is 0");
        Packer packer = begunWithP();
        steps(packer, "112:0 P0:1 P1:0 P1:0 P1:1 P2:0 128:1 P0:1 P1:1 P2:0 128:0 P0:1 P1:0 P1:1 P2:0 128:0 P0:0");
        KeyFrames x = Feeder.decoded(packer.octets());
        CHECK.same("told", x.count(4), 264);
        int[] due = {0, 6, 0, 0, -1, 1, 0, 1, 0, 0, 0, 0, 0, 0, 0, 0, 0, 0};
        for (int what = 0; what < due.length; what++) {
            CHECK.same("what " + what, x.block(0, what), due[what]);
        }
        KeyFrames none = Feeder.decoded(nothingOfABlock());
        CHECK.same("no more at once", none.block(0, 1), 0);
        CHECK.same("its way", none.block(0, 0), ACROSS);
    }

    private static int[] nothingOfABlock() {
        Packer packer = begunWithP();
        steps(packer, "112:1 86:1 140:0 P0:0");
        return packer.octets();
    }

    /** Sixteen of one size, above and below 0 in turns. */
    private static void size(int size, String steps) {
        Packer packer = begunWithP();
        steps(packer, "112:0");
        for (int i = 0; i < 16; i++) {
            steps(packer, "P0:1 P1:1 " + steps + " 128:" + i % 2);
        }
        KeyFrames x = Feeder.decoded(packer.octets());
        CHECK.same("read", x.block(0, 1), 16);
        for (int i = 0; i < 16; i++) {
            CHECK.same("size " + size + ", POSITION " + i, x.block(0, 2 + i), i % 2 == 0 ? size : -size);
        }
        CHECK.same("beyond", x.count(5), 0);
    }

    private static void sizesTo4() {
        CHECK.sentence("Else it has a size: P 2: 0: 1. P 3: 0: P 4: 0: 2; else P 5: 0: 3, 1: 4");
        size(1, "P2:0");
        size(2, "P2:1 P3:0 P4:0");
        size(3, "P2:1 P3:0 P4:1 P5:0");
        size(4, "P2:1 P3:0 P4:1 P5:1");
    }

    /** All sizes of one kind where they are few; else those with one BIT more than the least, and the largest. */
    private static void sizesFrom(int least, String steps, int... probabilities) {
        int many = 1 << probabilities.length;
        for (int added = 0; added < many; added++) {
            if (many <= 16 || Integer.bitCount(added) <= 1 || added == many - 1) {
                StringBuilder all = new StringBuilder(steps);
                for (int i = 0; i < probabilities.length; i++) {
                    int bit = added >> (probabilities.length - 1 - i) & 1;
                    all.append(" ").append(probabilities[i]).append(":").append(bit);
                }
                size(least + added, all.toString());
            }
        }
    }

    private static void sizesFrom5() {
        CHECK.sentence("P 3: 1: P 6: 0: P 7: 0: 5 and one BIT; else 7 and two");
        sizesFrom(5, "P2:1 P3:1 P6:0 P7:0", 159);
        sizesFrom(7, "P2:1 P3:1 P6:0 P7:1", 165, 145);
        CHECK.sentence("P 6: 1: P 8: 0: P 9: 0: 11 and three, 1: 19 and four");
        sizesFrom(11, "P2:1 P3:1 P6:1 P8:0 P9:0", 173, 148, 140);
        sizesFrom(19, "P2:1 P3:1 P6:1 P8:0 P9:1", 176, 155, 140, 135);
        CHECK.sentence("P 8: 1: P 10: 0: 35 and five, 1: 67 and eleven");
        sizesFrom(35, "P2:1 P3:1 P6:1 P8:1 P10:0", 180, 157, 141, 134, 130);
        sizesFrom(67, "P2:1 P3:1 P6:1 P8:1 P10:1", 254, 254, 243, 230, 196, 177, 153, 140, 133, 130, 129);
    }

    private static KeyFrames one(int... coefficients) {
        return Feeder.decoded(new PlainPicture(1, 1, 0, 0).with(0, EVEN, coefficients));
    }

    private static void fourNumbers() {
        CHECK.sentence("a = i0 + i2, b = i0 - i2, c = h(i1) - m(i3), d = m(i1) + h(i3): a + d, b + c, b - c, a - d");
        // 40 80 24 -56: m(80) is 104, h(80) 43, m(-56) -74, h(-56) -31; a is 64, b 16, c 117, d 73:
        // 137, 133, -101, -9, and 4 more, divided by 8: 17, 17, -13, -1.
        KeyFrames row = one(10, 20, 0, 0, 0, 6, -14);
        KeyFrames column = one(10, 0, 20, 6, 0, 0, 0, 0, 0, -14);
        for (int i = 0; i < 4; i++) {
            CHECK.row("places 0 1 2 3", row, 0, i, 145, 145, 115, 127);
            CHECK.column("places 0 4 8 12", column, i, 0, 145, 145, 115, 127);
        }
    }

    private static void columnsThenRows() {
        CHECK.sentence("First of each column, downwards, then of each row");
        // -4 at place 5: its column becomes -6 -3 3 6, and then each row i1's m, h, -h, -m. Rows first, what is
        // left and right of the diagonal would be the other way round.
        KeyFrames x = one(0, 0, 0, 0, -1);
        CHECK.row("-8 -4 4 8", x, 0, 0, 127, 128, 129, 129);
        CHECK.row("-4 -2 2 4", x, 0, 1, 128, 128, 128, 129);
        CHECK.row("3 1 -1 -3", x, 0, 2, 128, 128, 128, 128);
        CHECK.row("7 3 -3 -7", x, 0, 3, 129, 128, 128, 127);
    }

    private static void guessedAsTheOneAbove() {
        CHECK.sentence("DOWN: as the one above");
        KeyFrames x = Feeder.decoded(new PlainPicture(1, 3, 0, 0)
                .with(0, EVEN, 0, 4).with(1, DOWN).with(2, DOWN, 1));
        for (int y = 0; y < 8; y++) {
            CHECK.row("as above", x, 0, y, 131, 129, 127, 126);
        }
        for (int y = 8; y < 12; y++) {
            CHECK.row("one more", x, 0, y, 132, 130, 128, 127);
        }
    }

    private static void guessedAsTheOneLeft() {
        CHECK.sentence("ACROSS: as the one left");
        KeyFrames x = Feeder.decoded(new PlainPicture(3, 1, 0, 0)
                .with(0, EVEN, 0, 0, 4).with(1, ACROSS).with(2, ACROSS, 1));
        for (int i = 0; i < 8; i++) {
            CHECK.column("as left", x, i, 0, 131, 129, 127, 126);
        }
        for (int i = 8; i < 12; i++) {
            CHECK.column("one more", x, i, 0, 132, 130, 128, 127);
        }
    }

    private static void guessedBySlope() {
        CHECK.sentence("SLOPE: left + above - the CORNER, above and left of all");
        // Above 130 128 126 125, left 132 130 128 127, the corner 128.
        KeyFrames x = Feeder.decoded(new PlainPicture(2, 2, 0, 0)
                .with(0, EVEN).with(1, DOWN, 0, 4).with(2, ACROSS, 0, 0, 4).with(3, SLOPE));
        CHECK.row("above", x, 4, 3, 130, 128, 126, 125);
        CHECK.column("left", x, 3, 4, 132, 130, 128, 127);
        CHECK.row("first", x, 4, 4, 134, 132, 130, 129);
        CHECK.row("second", x, 4, 5, 132, 130, 128, 127);
        CHECK.row("third", x, 4, 6, 130, 128, 126, 125);
        CHECK.row("fourth", x, 4, 7, 129, 127, 125, 124);
    }

    /** Each four of an edge by itself: 129 beside 132, 130, 128, 127. */
    private static void acrossAnEdge() {
        CHECK.sentence("Of four SAMPLES across an edge, p1 p0 q0 q1");
        KeyFrames x = Feeder.decoded(new PlainPicture(2, 1, 0, 63).with(0, ACROSS, -1).with(1, ACROSS, 0, 0, 4));
        // p1 is as p0 and q1 as q0, so a is twice the step: 6, 2, -2, -4.
        CHECK.column("p1", x, 2, 0, 129, 129, 129, 129);
        CHECK.column("p0", x, 3, 0, 130, 129, 129, 128);
        CHECK.column("q0", x, 4, 0, 131, 130, 128, 127);
        CHECK.column("q1", x, 5, 0, 132, 130, 128, 127);
        CHECK.same("fours", x.count(6), 2);
    }
}
