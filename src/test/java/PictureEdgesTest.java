import java.util.Arrays;

/** Terms, from "A NUMBER" to "SAMPLES": each step at its edges. */
public final class PictureEdgesTest {
    private static final Check CHECK = new Check("PictureEdgesTest");
    private static final PictureCheck PICTURE = new PictureCheck(CHECK);
    private static final int EVEN = PlainPicture.EVEN;
    private static final int DOWN = PlainPicture.DOWN;
    private static final int ACROSS = PlainPicture.ACROSS;
    private static final int SLOPE = PlainPicture.SLOPE;

    public static void main(String[] args) {
        numbersOfThePicture();
        firstAndLastProbability();
        toldAs0();
        notTold();
        contextOfTheFirst();
        contextLater();
        bands();
        eachOfTheElevenP();
        notBehindA0();
        noMoreOfThisBlock();
        sizes();
        timesQ();
        places();
        cutDownwards();
        dividedBy8();
        above127InRow0();
        left129InColumn0();
        evenIsCut();
        cornerAtTheEdges();
        slopeBeyond();
        sampleBeyond();
        largestOfAll();
        CHECK.close();
    }

    /** One block, guessed 128 all over. */
    private static KeyFrames one(int q, int... coefficients) {
        return Feeder.decoded(new PlainPicture(1, 1, q, 0).with(0, EVEN, coefficients));
    }

    /** What makes a block so much more all over, with Q = 0. */
    private static int more(int difference) {
        return 2 * difference - 1;
    }

    private static void numbersOfThePicture() {
        CHECK.sentence("2 bits COLUMNS less 1, 2 bits ROWS less 1 (of BLOCKS), 7 bits Q, 6 bits LEVEL");
        for (int[] row : new int[][] {
            {1, 1, 0, 0}, {4, 1, 0, 0}, {1, 4, 0, 0}, {1, 1, 127, 0}, {1, 1, 0, 63}, {4, 4, 127, 63},
            {2, 3, 64, 32}, {3, 2, 63, 31}, {2, 1, 1, 1}, {3, 3, 126, 62}
        }) {
            PlainPicture picture = new PlainPicture(row[0], row[1], row[2], row[3]);
            KeyFrames x = Feeder.fed(picture.pack());
            CHECK.same("BLOCKS", x.decode(), row[0] * row[1]);
            for (int what = 0; what < 4; what++) {
                CHECK.same("count " + what, x.count(what), row[what]);
            }
        }
        // By single BITS: the highest of each number comes first.
        KeyFrames x = new KeyFrames();
        x.write();
        x.put(128, 0b10_01_1000000_000001, 17);
        x.put(250, 0, 32);
        x.end();
        CHECK.same("3 by 2", x.decode(), 6);
        int[] due = {3, 2, 64, 1};
        for (int what = 0; what < 4; what++) {
            CHECK.same("count " + what, x.count(what), due[what]);
        }
    }

    private static void firstAndLastProbability() {
        CHECK.sentence("for BAND 0 .. 7, CONTEXT 0 .. 2, I 0 .. 10 a BIT with 250");
        // P 0 of BAND 0 and CONTEXT 0 is the first that a picture uses.
        PlainPicture first = new PlainPicture(2, 1, 0, 0).with(0, EVEN, 3).with(1, SLOPE, 4);
        first.told[0][0][0] = 250;
        PICTURE.all("the first", first);
        // P 10 of BAND 7 and CONTEXT 2: the last of sixteen, behind a larger one, and 35 or more itself.
        for (int last : new int[] {35, -66, 67, -2114}) {
            PlainPicture picture = new PlainPicture(2, 1, 0, 0)
                    .with(0, EVEN, 1, 1, 1, 1, 1, 1, 1, 1, 1, 1, 1, 1, 1, 1, 2, last).with(1, SLOPE, 4);
            picture.told[7][2][10] = Math.abs(last) < 67 ? 3 : 252;
            PICTURE.all("the last, for " + last, picture);
        }
        CHECK.sentence("how many PROBABILITIES were told anew");
        PlainPicture none = new PlainPicture(1, 1, 0, 0).with(0, DOWN, 7);
        CHECK.same("none", Feeder.decoded(none).count(4), 0);
        PlainPicture all = new PlainPicture(1, 1, 0, 0).with(0, DOWN, 7);
        for (int i = 0; i < 264; i++) {
            // Told as it was: that counts too.
            all.told[i / 33][i / 11 % 3][i % 11] = i % 2 == 0 ? 128 : i % 256;
        }
        CHECK.same("all", Feeder.decoded(all).count(4), 264);
        PICTURE.all("all told", all);
        all.told[7][2][10] = PlainPicture.NOT_TOLD;
        CHECK.same("all but the last", Feeder.decoded(all).count(4), 263);
    }

    private static void toldAs0() {
        CHECK.sentence("a NUMBER of 8 bits is that PROBABILITY, 1 if it is 0");
        for (int told : new int[] {0, 1, 2, 127, 128, 254, 255}) {
            // Each P is asked for both a BIT 0 and a BIT 1.
            PlainPicture picture = new PlainPicture(2, 2, 0, 0)
                    .with(0, EVEN, 1, 2, 3, 4, 6, 9).with(1, DOWN, 0, 0, 15, 30, 60)
                    .with(2, ACROSS, 1).with(3, SLOPE, 200, -1, 0, 1);
            for (int[][] band : picture.told) {
                Arrays.fill(band[0], told);
                Arrays.fill(band[2], told);
            }
            PICTURE.all("told " + told, picture);
        }
    }

    private static void notTold() {
        CHECK.sentence("else it is 128");
        PlainPicture told = new PlainPicture(1, 1, 0, 0).with(0, EVEN, 1);
        for (int[][] band : told.told) {
            Arrays.fill(band[0], 250);
        }
        PlainPicture plain = new PlainPicture(1, 1, 0, 0).with(0, EVEN, -2, 1);
        KeyFrames x = Feeder.fed(told.pack());
        x.decode();
        CHECK.same("told", x.count(4), 88);
        x.erase();
        Feeder.feed(x, plain.pack());
        x.decode();
        CHECK.same("none told now", x.count(4), 0);
        CHECK.same("read", x.block(0, 1), 2);
        CHECK.same("the first", x.block(0, 2), -2);
        CHECK.same("the second", x.block(0, 3), 1);
    }

    private static void tellContextsApart(PlainPicture picture) {
        for (int[][] band : picture.told) {
            Arrays.fill(band[0], 30);
            Arrays.fill(band[2], 220);
        }
    }

    private static void contextOfTheFirst() {
        CHECK.sentence("how many of the BLOCKS above and left (that there are) have some that is not 0");
        for (int some = 0; some < 512; some++) {
            PlainPicture picture = new PlainPicture(3, 3, 0, 0);
            tellContextsApart(picture);
            for (int k = 0; k < 9; k++) {
                boolean has = (some >> k & 1) == 1;
                // Blocks without one have none that was read, or sixteen that are 0.
                int[] zeros = new int[k % 2 == 0 ? 0 : 16];
                picture.with(k, k % 4, has ? new int[] {0, 0, k % 2 == 0 ? -1 : 5} : zeros);
            }
            if (some % 7 == 0) {
                PICTURE.all("blocks " + some, picture);
            } else {
                PICTURE.blocks("blocks " + some, picture, picture.pack());
            }
        }
    }

    private static void contextLater() {
        CHECK.sentence("later 0, 1, 2 if the one before is 0, 1 or -1, larger");
        int[] before = {0, 1, -1, 2, -2, 3, 67, -2114};
        for (int first : before) {
            for (int second : before) {
                for (int third : new int[] {1, -2, 40}) {
                    PlainPicture picture = new PlainPicture(2, 1, 0, 0)
                            .with(0, EVEN, first, second, third).with(1, ACROSS, 4, first, second, third);
                    tellContextsApart(picture);
                    PICTURE.blocks(first + " " + second + " " + third, picture, picture.pack());
                }
            }
        }
    }

    private static void bands() {
        CHECK.sentence("POSITIONS 0 .. 15, of BANDS 0 1 2 3 6 4 5 6 6 6 6 6 6 6 6 7");
        for (int band = 0; band < 8; band++) {
            PlainPicture picture = new PlainPicture(1, 1, 0, 0)
                    .with(0, DOWN, 1, 2, -3, 5, 0, 1, -2, 8, 0, 0, 3, -1, 1, 20, 2, -40);
            for (int[] context : picture.told[band]) {
                Arrays.fill(context, 10);
            }
            PICTURE.all("band " + band, picture);
        }
    }

    private static void eachOfTheElevenP() {
        CHECK.sentence("With the PROBABILITIES P of BAND and CONTEXT: P 0 .. P 10");
        for (int i = 0; i < 11; i++) {
            for (int told : new int[] {4, 252}) {
                // All kinds of sizes, so that each P is asked.
                PlainPicture picture = new PlainPicture(1, 2, 0, 0)
                        .with(0, DOWN, 1, 0, 2, 3, 4, 5, 7, 11, 19, 35, 67, 0, 1, 18, 34, 66)
                        .with(1, SLOPE, 66, 34, 18, 10, 6, 4, 3, 2, 1);
                for (int[][] band : picture.told) {
                    for (int[] context : band) {
                        context[i] = told;
                    }
                }
                PICTURE.all("P " + i, picture);
            }
        }
    }

    private static void notBehindA0() {
        CHECK.sentence("a BIT with P 0 (but not behind a 0)");
        int[] lastOfSixteen = new int[16];
        lastOfSixteen[15] = 7;
        int[] firstOfSixteen = new int[16];
        firstOfSixteen[0] = 7;
        int[][] rows = {{0, 1}, {0, 0, 0, 2}, {5, 0, 1}, {1, 0, 0, -1, 2}, new int[16], lastOfSixteen, firstOfSixteen};
        for (int[] row : rows) {
            PlainPicture picture = new PlainPicture(2, 1, 3, 0).with(0, ACROSS, row).with(1, DOWN, 6, -1);
            PICTURE.all("of " + row.length, picture);
            // A BIT that is read behind a 0 would be 0 with this, and stop there.
            tellContextsApart(picture);
            for (int[][] band : picture.told) {
                band[0][0] = 255;
            }
            PICTURE.all("of " + row.length + ", told", picture);
        }
    }

    private static void noMoreOfThisBlock() {
        CHECK.sentence("0: no more of this BLOCK; how many COEFFICIENTS were read (0 ones too)");
        for (int many = 0; many <= 16; many++) {
            int[] ones = new int[many];
            Arrays.fill(ones, -1);
            int[] zeros = new int[many];
            if (many > 0) {
                zeros[many - 1] = 2;
            }
            // The block behind it tells whether one BIT too many or too few was read.
            PlainPicture picture = new PlainPicture(3, 1, 2, 0).with(0, EVEN, ones).with(1, DOWN, zeros).with(2, SLOPE, 9, 8);
            KeyFrames x = Feeder.decoded(picture);
            CHECK.same("ones", x.block(0, 1), many);
            CHECK.same("zeros before one", x.block(1, 1), many);
            CHECK.same("behind them", x.block(2, 1), 2);
            PICTURE.all("of " + many, picture);
        }
    }

    private static void sizes() {
        CHECK.sentence("Else it has a size; a BIT with 128: 1: it is below 0");
        // The first and the last size of each kind, in each place, of both signs.
        int[] sizes = {1, 2, 3, 4, 5, 6, 7, 10, 11, 18, 19, 34, 35, 66, 67, 2114};
        for (int turn = 0; turn < 16; turn++) {
            int[] turned = new int[16];
            int[] below = new int[16];
            for (int i = 0; i < 16; i++) {
                turned[i] = sizes[(i + turn) % 16];
                below[i] = -turned[i];
            }
            PlainPicture picture = new PlainPicture(2, 1, 0, 0).with(0, EVEN, turned).with(1, EVEN, below);
            KeyFrames x = Feeder.decoded(picture);
            for (int i = 0; i < 16; i++) {
                CHECK.same("above 0", x.block(0, 2 + i), sizes[(i + turn) % 16]);
                CHECK.same("below 0", x.block(1, 2 + i), -sizes[(i + turn) % 16]);
            }
        }
        for (int size = 1; size <= 2114; size += size < 80 ? 1 : 113) {
            CHECK.same("size " + size, one(0, size).block(0, 2), size);
            CHECK.same("size " + -size, one(0, 0, -size).block(0, 3), -size);
        }
    }

    private static void timesQ() {
        CHECK.sentence("each times 4 + Q (place 0), 4 + Q + Q / 2 (others)");
        int[][] factors = {{0, 4, 4}, {1, 5, 5}, {2, 6, 7}, {3, 7, 8}, {9, 13, 17}, {126, 130, 193}, {127, 131, 194}};
        for (int[] row : factors) {
            CHECK.flat("place 0 with " + row[0], one(row[0], 7), 0, 0, 128 + (7 * row[1] + 4) / 8);
            // Place 2 alone needs no m and h: it is added, taken away, taken away and added along a row.
            int added = 128 + (5 * row[2] + 4) / 8;
            int taken = 128 + Math.floorDiv(-5 * row[2] + 4, 8);
            CHECK.row("place 2 with " + row[0], one(row[0], 0, 0, 0, 0, 0, 5), 0, 3, added, taken, taken, added);
        }
        for (int q = 0; q <= 127; q++) {
            PICTURE.all("Q " + q, new PlainPicture(1, 1, q, 0).with(0, EVEN, 2, 3, -2));
        }
    }

    private static void places() {
        CHECK.sentence("They lie, by POSITIONS, at places 0 1 4 8 5 2 3 6 9 12 13 10 7 11 14 15 of four rows");
        for (int position = 0; position < 16; position++) {
            int[] alone = new int[position + 1];
            alone[position] = -5;
            PICTURE.all("position " + position, new PlainPicture(1, 1, 20, 0).with(0, EVEN, alone));
        }
        // Place 2 (of POSITION 5) goes along a row, place 8 (of POSITION 3) down a column.
        CHECK.row("place 2", one(0, 0, 0, 0, 0, 0, 10), 0, 0, 133, 123, 123, 133);
        CHECK.column("place 8", one(0, 0, 0, 0, 10), 0, 0, 133, 123, 123, 133);
        // Place 3 (of POSITION 6) and place 12 (of POSITION 9): m(16) is 20, h(16) is 8.
        CHECK.row("place 3", one(0, 0, 0, 0, 0, 0, 0, 4), 0, 0, 129, 126, 131, 127);
        CHECK.column("place 12", one(0, 0, 0, 0, 0, 0, 0, 0, 0, 0, 4), 0, 0, 129, 126, 131, 127);
    }

    private static void cutDownwards() {
        CHECK.sentence("m(x) = x + x 20091 / 65536, h(x) = x 35468 / 65536, cut downwards");
        // m(-16) is -16 - 5, and (-21 + 4) / 8 is -3; cut towards 0 it would be -20, and -2.
        CHECK.row("m below 0", one(0, 0, -4), 0, 0, 125, 127, 129, 131);
        CHECK.column("m below 0", one(0, 0, 0, -4), 0, 0, 125, 127, 129, 131);
        // h(-8) is -5, and (-5 + 4) / 8 is -1; cut towards 0 it would be -4, and 0.
        CHECK.row("h below 0", one(0, 0, -2), 0, 0, 127, 127, 129, 129);
        CHECK.column("h below 0", one(0, 0, 0, -2), 0, 0, 127, 127, 129, 129);
        CHECK.row("m above 0", one(0, 0, 4), 0, 0, 131, 129, 127, 126);
        CHECK.row("h above 0", one(0, 0, 2), 0, 0, 129, 129, 128, 127);
        // Just above or below a whole number, so that no number next to 20091 or 35468 would do.
        CHECK.row("610 20091 / 65536 is 187.004", one(79, 0, 5), 0, 0, 228, 169, 87, 28);
        CHECK.row("-137 20091 / 65536 is -41.9993", one(89, 0, -1), 0, 0, 106, 119, 137, 150);
        CHECK.row("704 35468 / 65536 is 381.005", one(115, 0, 4), 0, 0, 243, 176, 80, 13);
        CHECK.row("364 35468 / 65536 is 196.998", one(119, 0, 2), 0, 0, 187, 153, 104, 69);
    }

    private static void dividedBy8() {
        CHECK.sentence("what comes more by 4 and divided by 8, downwards");
        CHECK.flat("-4 and 4", one(0, -1), 0, 0, 128);
        CHECK.flat("-5 and 4", one(1, -1), 0, 0, 127);
        CHECK.flat("-12 and 4", one(0, -3), 0, 0, 127);
        CHECK.flat("-13 and 4", one(9, -1), 0, 0, 126);
        CHECK.flat("4 and 4", one(0, 1), 0, 0, 129);
        CHECK.flat("11 and 4", one(7, 1), 0, 0, 129);
        CHECK.flat("12 and 4", one(8, 1), 0, 0, 130);
    }

    private static void above127InRow0() {
        CHECK.sentence("127 in ROW 0");
        PlainPicture down = new PlainPicture(4, 2, 0, 0);
        for (int k = 0; k < 4; k++) {
            down.with(k, DOWN).with(4 + k, DOWN, more(5));
        }
        KeyFrames x = Feeder.decoded(down);
        for (int column = 0; column < 4; column++) {
            CHECK.flat("DOWN in ROW 0", x, column, 0, 127);
            CHECK.flat("DOWN in ROW 1", x, column, 1, 132);
        }
        KeyFrames even = Feeder.decoded(new PlainPicture(2, 1, 0, 0).with(0, ACROSS, more(8)));
        CHECK.flat("EVEN in ROW 0", even, 1, 0, (4 * 127 + 4 * 137 + 4) / 8);
        // SLOPE beside a block: what is above all and the corner are both 127.
        KeyFrames slope = Feeder.decoded(new PlainPicture(2, 1, 0, 0).with(0, DOWN, more(9)).with(1, SLOPE));
        CHECK.flat("SLOPE in ROW 0", slope, 1, 0, 136);
    }

    private static void left129InColumn0() {
        CHECK.sentence("129 in COLUMN 0");
        PlainPicture across = new PlainPicture(2, 4, 0, 0);
        for (int row = 0; row < 4; row++) {
            across.with(2 * row, ACROSS).with(2 * row + 1, ACROSS, more(5));
        }
        KeyFrames x = Feeder.decoded(across);
        for (int row = 0; row < 4; row++) {
            CHECK.flat("ACROSS in COLUMN 0", x, 0, row, 129);
            CHECK.flat("ACROSS in COLUMN 1", x, 1, row, 134);
        }
        KeyFrames even = Feeder.decoded(new PlainPicture(1, 2, 0, 0).with(0, DOWN, more(8)));
        CHECK.flat("EVEN in COLUMN 0", even, 0, 1, (4 * 129 + 4 * 135 + 4) / 8);
        KeyFrames slope = Feeder.decoded(new PlainPicture(1, 2, 0, 0).with(0, DOWN, more(9)).with(1, SLOPE));
        CHECK.flat("SLOPE in COLUMN 0", slope, 0, 1, 136);
    }

    private static void evenIsCut() {
        CHECK.sentence("EVEN: all are their sum and 4, divided by 8, cut");
        CHECK.flat("1024", one(0), 0, 0, 128);
        // Beside 132 131 129 127 and below 127 four times: 1027 and 4 are 128 eights and 7.
        KeyFrames cut = Feeder.decoded(new PlainPicture(2, 1, 0, 0).with(0, EVEN, 3, 0, 4));
        CHECK.column("left of it", cut, 3, 0, 132, 131, 129, 127);
        CHECK.flat("1027", cut, 1, 0, 128);
        // Beside 130: 1028 and 4 are 129 eights.
        KeyFrames whole = Feeder.decoded(new PlainPicture(2, 1, 0, 0).with(0, EVEN, more(2)));
        CHECK.flat("left of it", whole, 0, 0, 130);
        CHECK.flat("1028", whole, 1, 0, 129);
        // Inside, by what is above and left of the block alone, all of it 0 or 255.
        for (int sign = -1; sign <= 1; sign += 2) {
            KeyFrames x = Feeder.decoded(new PlainPicture(2, 2, 0, 0)
                    .with(1, DOWN, sign * 600).with(2, ACROSS, sign * 600).with(3, EVEN));
            CHECK.flat("inside", x, 1, 1, sign > 0 ? 255 : 0);
        }
    }

    private static void cornerAtTheEdges() {
        CHECK.sentence("the CORNER, above and left of all (127 in ROW 0, else 129 in COLUMN 0)");
        // Left 129, above 127: with a corner of 127 that is 129.
        KeyFrames first = Feeder.decoded(new PlainPicture(1, 1, 0, 0).with(0, SLOPE));
        CHECK.flat("in both", first, 0, 0, 129);
        PlainPicture picture = new PlainPicture(4, 4, 0, 0);
        for (int k = 0; k < 16; k++) {
            picture.with(k, SLOPE);
        }
        picture.with(0, SLOPE, more(11));
        KeyFrames x = Feeder.decoded(picture);
        for (int k = 0; k < 16; k++) {
            CHECK.flat("block " + k, x, k % 4, k / 4, 140);
        }
        // Inside it is the sample: 133 above, 139 left, 130 in the corner.
        KeyFrames inside = Feeder.decoded(new PlainPicture(2, 2, 0, 0)
                .with(0, EVEN, more(2)).with(1, DOWN, more(6)).with(2, ACROSS, more(10)).with(3, SLOPE));
        CHECK.flat("inside", inside, 1, 1, 139 + 133 - 130);
    }

    private static void slopeBeyond() {
        CHECK.sentence("SLOPE: left + above - the CORNER, 0 or 255 if it is beyond");
        // Above 200, the corner 128, left from 181 on; then 10 less, so that what is beyond is seen.
        int[] high = {244, 245, 245, 245};
        for (int i = 0; i < high.length; i++) {
            KeyFrames x = Feeder.decoded(new PlainPicture(2, 2, 0, 0)
                    .with(1, DOWN, more(73)).with(2, ACROSS, more(53 + i)).with(3, SLOPE, more(-10)));
            CHECK.flat("slope " + (254 + i), x, 1, 1, high[i]);
        }
        // Above 60, the corner 128, left from 69 downwards; then 10 more.
        int[] low = {11, 10, 10, 10};
        for (int i = 0; i < low.length; i++) {
            KeyFrames x = Feeder.decoded(new PlainPicture(2, 2, 0, 0)
                    .with(1, DOWN, more(-67)).with(2, ACROSS, more(-60 - i)).with(3, SLOPE, more(10)));
            CHECK.flat("slope " + (1 - i), x, 1, 1, low[i]);
        }
    }

    private static void sampleBeyond() {
        CHECK.sentence("What the TRANSFORM gives is added, 0 or 255 if it is beyond");
        int[][] due = {{126, 254}, {127, 255}, {128, 255}, {129, 255}, {-127, 1}, {-128, 0}, {-129, 0}, {-130, 0}};
        for (int[] row : due) {
            KeyFrames x = Feeder.decoded(new PlainPicture(2, 1, 0, 0).with(0, EVEN, more(row[0])).with(1, ACROSS));
            CHECK.flat("128 and " + row[0], x, 0, 0, row[1]);
            CHECK.flat("guessed from that", x, 1, 0, row[1]);
        }
    }

    /** 2114 times 194 times 35468 is far beyond 32 bits, and numbers have no bound in the document. */
    private static void largestOfAll() {
        CHECK.sentence("TRANSFORM: x, y being numbers");
        for (int sign = -1; sign <= 1; sign += 2) {
            int big = sign * 2114;
            int high = sign > 0 ? 255 : 0;
            int low = 255 - high;
            CHECK.row("place 1", one(127, 0, big), 0, 0, high, high, low, low);
            CHECK.column("place 4", one(127, 0, 0, big), 0, 0, high, high, low, low);
            CHECK.row("place 3", one(127, 0, 0, 0, 0, 0, 0, big), 0, 0, high, low, high, low);
            CHECK.flat("place 0", one(127, big), 0, 0, high);
            int[] all = new int[16];
            Arrays.fill(all, big);
            PICTURE.all("all places", new PlainPicture(1, 1, 127, 0).with(0, EVEN, all));
        }
    }
}
