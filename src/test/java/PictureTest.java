/** Promises 9 (decode), 10 (sample), 11 (block) and 12 (count), by pictures worked out by hand. */
public final class PictureTest {
    private static final Check CHECK = new Check("PictureTest");

    public static void main(String[] args) {
        noBytes();
        decodeEndsWhatIsBegun();
        decodeTakesWritingAsItStands();
        header();
        waysAtTheEdges();
        slopeIsCut();
        coefficientSizes();
        blockAnswersNone();
        readCountsZeros();
        zerosGiveNoContext();
        probabilitiesToldAnew();
        samplesOfOneCoefficient();
        largeCoefficients();
        filterLimit();
        filterOfOneSide();
        filterChangesNothing();
        filterOrder();
        octetsBeyond();
        laterPictures();
        refusals();
        allBitsOne();
        CHECK.close();
    }

    private static KeyFrames decoded(PlainPicture picture) {
        return Feeder.decoded(picture.pack());
    }

    private static void checkFlat(String what, KeyFrames x, int column, int row, int due) {
        for (int i = 0; i < 16; i++) {
            CHECK.same(what, x.sample(4 * column + i % 4, 4 * row + i / 4), due);
        }
    }

    private static void noBytes() {
        KeyFrames x = new KeyFrames();
        CHECK.same("decode of no bytes", x.decode(), 1);
        int[] counts = {1, 1, 0, 0, 0, 5, 0};
        for (int what = 0; what < 7; what++) {
            CHECK.same("count " + what, x.count(what), counts[what]);
        }
        checkFlat("even at both edges", x, 0, 0, 128);
        CHECK.same("its way", x.block(0, 0), 0);
        CHECK.same("none read", x.block(0, 1), 0);
        CHECK.same("still no bytes", x.octet(0), -1);
        for (int[] at : new int[][] {{4, 0}, {0, 4}, {-1, 0}, {0, -1}, {Integer.MAX_VALUE, 0}, {0, Integer.MIN_VALUE}}) {
            CHECK.same("sample outside", x.sample(at[0], at[1]), -1);
        }
    }

    private static void decodeEndsWhatIsBegun() {
        KeyFrames x = new KeyFrames();
        x.write();
        x.decode();
        CHECK.refusesState("put behind decode", () -> x.put(128, 0, 1));
        CHECK.refusesState("end behind decode", () -> x.end());
        x.read();
        x.decode();
        CHECK.refusesState("get behind decode", () -> x.get(128, 1));
    }

    private static void decodeTakesWritingAsItStands() {
        KeyFrames x = new KeyFrames();
        x.write();
        // Without its end just three bytes are written, enough for what is told in them.
        x.put(128, 0xF, 4);
        x.put(128, 0x55, 7);
        CHECK.same("three bytes", x.put(128, 0, 32), 3);
        CHECK.same("decode", x.decode(), 16);
        CHECK.same("Q", x.count(2), 0x55);
        CHECK.isTrue("beyond", x.count(5) > 0);
        CHECK.isTrue("the bytes stay", x.octet(2) != -1);
        CHECK.same("no end of it", x.octet(3), -1);
    }

    private static void header() {
        for (int i = 0; i < 16; i++) {
            int columns = 1 + i % 4;
            int rows = 1 + i / 4;
            int q = i == 15 ? 127 : i * 8;
            int level = i == 15 ? 63 : i * 4;
            PlainPicture picture = new PlainPicture(columns, rows, q, level);
            KeyFrames x = Feeder.fed(picture.pack());
            CHECK.same("blocks", x.decode(), columns * rows);
            CHECK.same("columns", x.count(0), columns);
            CHECK.same("rows", x.count(1), rows);
            CHECK.same("Q", x.count(2), q);
            CHECK.same("level", x.count(3), level);
            CHECK.isTrue("the last sample", x.sample(4 * columns - 1, 4 * rows - 1) >= 0);
            CHECK.same("right of all", x.sample(4 * columns, 0), -1);
            CHECK.same("below all", x.sample(0, 4 * rows), -1);
            CHECK.same("the last block", x.block(columns * rows - 1, 0), 0);
            CHECK.same("behind the last block", x.block(columns * rows, 0), -1);
        }
    }

    private static void waysAtTheEdges() {
        PlainPicture picture = new PlainPicture(2, 2, 0, 0)
                .with(0, PlainPicture.EVEN).with(1, PlainPicture.DOWN)
                .with(2, PlainPicture.ACROSS).with(3, PlainPicture.SLOPE);
        KeyFrames x = decoded(picture);
        checkFlat("even", x, 0, 0, 128);
        checkFlat("down", x, 1, 0, 127);
        checkFlat("across", x, 0, 1, 129);
        checkFlat("slope", x, 1, 1, 129 + 127 - 128);
        for (int k = 0; k < 4; k++) {
            CHECK.same("way " + k, x.block(k, 0), k);
        }
        PlainPicture slopes = new PlainPicture(2, 2, 0, 0);
        for (int k = 0; k < 4; k++) {
            slopes.with(k, PlainPicture.SLOPE);
        }
        slopes.with(0, PlainPicture.SLOPE, 8);
        KeyFrames y = decoded(slopes);
        // Left 129, above 127 and the corner 127; then 4 more by the coefficient 8: (8 * 4 + 4) / 8.
        checkFlat("slope in the corner", y, 0, 0, 133);
        checkFlat("slope in row 0", y, 1, 0, 133);
        checkFlat("slope in column 0", y, 0, 1, 133);
        checkFlat("slope inside", y, 1, 1, 133);
        KeyFrames z = decoded(new PlainPicture(1, 1, 0, 0).with(0, PlainPicture.ACROSS));
        checkFlat("across in the corner", z, 0, 0, 129);
        KeyFrames down = decoded(new PlainPicture(1, 2, 0, 0).with(0, PlainPicture.ACROSS).with(1, PlainPicture.DOWN));
        checkFlat("down in row 1", down, 0, 1, 129);
    }

    private static void slopeIsCut() {
        // Block 0 stays at 128, blocks 1 and 2 go to 255 or 0: the slope of 3 is beyond, and cut before 3 is added to.
        for (int sign = -1; sign <= 1; sign += 2) {
            PlainPicture picture = new PlainPicture(2, 2, 0, 0)
                    .with(1, PlainPicture.DOWN, sign * 400).with(2, PlainPicture.ACROSS, sign * 400)
                    .with(3, PlainPicture.SLOPE, sign * -20);
            KeyFrames x = decoded(picture);
            checkFlat("cut", x, 1, 0, sign > 0 ? 255 : 0);
            checkFlat("cut", x, 0, 1, sign > 0 ? 255 : 0);
            checkFlat("cut slope", x, 1, 1, sign > 0 ? 245 : 10);
        }
    }

    private static void coefficientSizes() {
        int[] sizes = {1, 2, 3, 4, 5, 6, 7, 10, 11, 18, 19, 34, 35, 66, 67, 2114};
        int[] others = new int[16];
        for (int i = 0; i < 16; i++) {
            others[i] = -sizes[15 - i];
        }
        KeyFrames x = decoded(new PlainPicture(2, 1, 9, 0).with(0, PlainPicture.EVEN, sizes).with(1, PlainPicture.DOWN, others));
        for (int i = 0; i < 16; i++) {
            CHECK.same("coefficient " + i, x.block(0, 2 + i), sizes[i]);
            CHECK.same("negative " + i, x.block(1, 2 + i), others[i]);
        }
        CHECK.same("all were read", x.block(0, 1), 16);
        CHECK.same("all were read", x.block(1, 1), 16);
    }

    private static void blockAnswersNone() {
        KeyFrames x = decoded(new PlainPicture(2, 1, 0, 0).with(1, PlainPicture.SLOPE, -1, 1));
        for (int k : new int[] {2, 15, 16, -1, Integer.MIN_VALUE, Integer.MAX_VALUE}) {
            CHECK.same("way of " + k, x.block(k, 0), -1);
            CHECK.same("read of " + k, x.block(k, 1), -1);
            CHECK.same("coefficient of " + k, x.block(k, 2), 0);
            CHECK.same("last coefficient of " + k, x.block(k, 17), 0);
        }
        CHECK.same("a coefficient", x.block(1, 2), -1);
        CHECK.same("the next", x.block(1, 3), 1);
        for (int what = 4; what <= 17; what++) {
            CHECK.same("one that was not read", x.block(1, what), 0);
        }
        for (int what : new int[] {-1, 18, Integer.MIN_VALUE, Integer.MAX_VALUE}) {
            for (int k : new int[] {0, 2, -1}) {
                CHECK.refusesArgument("block " + what, () -> x.block(k, what));
            }
        }
    }

    private static void readCountsZeros() {
        KeyFrames x = decoded(new PlainPicture(2, 1, 0, 0)
                .with(0, PlainPicture.EVEN, 0, 0, 0, 2).with(1, PlainPicture.EVEN, 5, 0, 0, 0, 0, 0, 0, 0, 0, 0, 0, 0, 0, 0, 0, 0));
        CHECK.same("zeros count", x.block(0, 1), 4);
        CHECK.same("zeros to the last count", x.block(1, 1), 16);
        CHECK.same("behind zeros", x.block(0, 5), 2);
        CHECK.same("a zero", x.block(0, 2), 0);
    }

    /** Block 0 has sixteen that are 0, so block 1 has the context 0, and its first bit is nearly never 0. */
    private static void zerosGiveNoContext() {
        PlainPicture picture = new PlainPicture(2, 1, 0, 0)
                .with(0, PlainPicture.EVEN, new int[16]).with(1, PlainPicture.EVEN, 3, -4);
        picture.told[0][0][0] = 1;
        picture.told[0][1][0] = 255;
        KeyFrames x = decoded(picture);
        CHECK.same("all zeros", x.block(0, 1), 16);
        CHECK.same("two", x.block(1, 1), 2);
        CHECK.same("first", x.block(1, 2), 3);
        CHECK.same("second", x.block(1, 3), -4);
    }

    private static void probabilitiesToldAnew() {
        PlainPicture picture = new PlainPicture(1, 1, 0, 0).with(0, PlainPicture.EVEN, 1, 2, 3);
        picture.told[0][0][0] = 0;
        picture.told[1][1][1] = 128;
        picture.told[2][2][2] = 255;
        picture.told[7][2][10] = 9;
        KeyFrames x = decoded(picture);
        CHECK.same("told", x.count(4), 4);
        CHECK.same("read", x.block(0, 1), 3);
        for (int i = 0; i < 3; i++) {
            CHECK.same("coefficient", x.block(0, 2 + i), i + 1);
        }
        PlainPicture all = new PlainPicture(1, 1, 0, 0).with(0, PlainPicture.EVEN, 7);
        for (int i = 0; i < 264; i++) {
            all.told[i / 33][i / 11 % 3][i % 11] = i % 256;
        }
        CHECK.same("all told", decoded(all).count(4), 264);
    }

    private static void samplesOfOneCoefficient() {
        // Place 1 (of POSITION 1) times 4 + 9 + 4: 17; m(17) = 22, h(17) = 9: rows of 22, 9, -9, -22, rounded.
        KeyFrames x = decoded(new PlainPicture(1, 1, 9, 0).with(0, PlainPicture.EVEN, 0, 1));
        // Place 4 (of POSITION 2) is the same downwards.
        KeyFrames y = decoded(new PlainPicture(1, 1, 9, 0).with(0, PlainPicture.EVEN, 0, 0, 1));
        int[] due = {131, 129, 127, 125};
        for (int i = 0; i < 16; i++) {
            CHECK.same("along a row", x.sample(i % 4, i / 4), due[i % 4]);
            CHECK.same("down a column", y.sample(i % 4, i / 4), due[i / 4]);
        }
        // Place 0 is times 4 + 9, cut downwards: (-13 + 4) / 8 is -2.
        checkFlat("place 0", decoded(new PlainPicture(1, 1, 9, 0).with(0, PlainPicture.EVEN, -1)), 0, 0, 126);
        checkFlat("place 0", decoded(new PlainPicture(1, 1, 9, 0).with(0, PlainPicture.EVEN, 1)), 0, 0, 130);
    }

    /** 2114 times 194 times 35468 is far beyond 32 bits. */
    private static void largeCoefficients() {
        KeyFrames x = decoded(new PlainPicture(1, 1, 127, 0).with(0, PlainPicture.EVEN, 0, 2114));
        for (int i = 0; i < 16; i++) {
            CHECK.same("large", x.sample(i % 4, i / 4), i % 4 < 2 ? 255 : 0);
        }
        KeyFrames y = decoded(new PlainPicture(1, 1, 127, 0).with(0, PlainPicture.EVEN, 0, 0, -2114));
        for (int i = 0; i < 16; i++) {
            CHECK.same("large", y.sample(i % 4, i / 4), i / 4 < 2 ? 0 : 255);
        }
    }

    /** 132 beside 127: twice 5 and half of 5 are 12, which is 2 LEVEL + 4 at 4. */
    private static void filterLimit() {
        int[][] due = {{3, 132, 132, 127, 127, 0}, {4, 132, 131, 128, 127, 4}, {0, 132, 132, 127, 127, 0}};
        for (int[] row : due) {
            KeyFrames x = decoded(new PlainPicture(2, 1, 0, row[0]).with(0, PlainPicture.EVEN, 8).with(1, PlainPicture.DOWN));
            for (int y = 0; y < 4; y++) {
                for (int i = 0; i < 4; i++) {
                    CHECK.same("across an edge at level " + row[0], x.sample(2 + i, y), row[1 + i]);
                }
                CHECK.same("far from it", x.sample(0, y), 132);
                CHECK.same("far from it", x.sample(7, y), 127);
            }
            CHECK.same("fours at level " + row[0], x.count(6), row[5]);
        }
        KeyFrames upper = decoded(new PlainPicture(1, 2, 0, 4).with(0, PlainPicture.EVEN, 10).with(1, PlainPicture.ACROSS));
        // 133 above 129: a is 4 - 12.
        int[] downwards = {133, 133, 133, 132, 130, 129, 129, 129};
        for (int y = 0; y < 8; y++) {
            CHECK.same("down an edge", upper.sample(1, y), downwards[y]);
        }
        CHECK.same("fours down", upper.count(6), 4);
    }

    /** 127 beside 129: a is 4, so that only q0 becomes another one. */
    private static void filterOfOneSide() {
        KeyFrames x = decoded(new PlainPicture(2, 1, 0, 1).with(0, PlainPicture.DOWN).with(1, PlainPicture.EVEN, 3));
        CHECK.same("p0", x.sample(3, 0), 127);
        CHECK.same("q0", x.sample(4, 0), 128);
        CHECK.same("q1", x.sample(5, 0), 129);
        CHECK.same("fours", x.count(6), 4);
    }

    private static void filterChangesNothing() {
        PlainPicture alike = new PlainPicture(4, 4, 0, 63);
        for (int k = 1; k < 16; k++) {
            alike.with(k, k < 4 ? PlainPicture.ACROSS : PlainPicture.DOWN);
        }
        KeyFrames x = decoded(alike);
        CHECK.same("all alike", x.count(6), 0);
        for (int i = 0; i < 256; i++) {
            CHECK.same("all alike", x.sample(i % 16, i / 16), 128);
        }
    }

    /** Where edges cross, what is filtered first is seen by what comes later. */
    private static void filterOrder() {
        PlainPicture picture = new PlainPicture(2, 2, 20, 40)
                .with(0, PlainPicture.EVEN, 6).with(1, PlainPicture.DOWN, -5)
                .with(2, PlainPicture.ACROSS, 0, 3).with(3, PlainPicture.SLOPE, 2, 0, -2);
        int[][] due = picture.samples();
        KeyFrames x = decoded(picture);
        for (int i = 0; i < 64; i++) {
            CHECK.same("filtered", x.sample(i % 8, i / 8), due[i / 8][i % 8]);
        }
        CHECK.same("fours", x.count(6), picture.foursChanged);
        CHECK.isTrue("some were changed", picture.foursChanged > 0);
    }

    /** A picture of zeros takes five bytes, the first two among them. */
    private static void octetsBeyond() {
        for (int many = 0; many <= 7; many++) {
            KeyFrames x = new KeyFrames();
            x.feed(many, 0, 0, 0, 0);
            x.decode();
            CHECK.same("beyond " + many, x.count(5), Math.max(0, 5 - many));
            x.feed(16, 0, 0, 0, 0);
            CHECK.same("of the picture, not of the bytes now", x.count(5), Math.max(0, 5 - many));
        }
    }

    private static void laterPictures() {
        KeyFrames x = decoded(new PlainPicture(3, 2, 30, 9).with(0, PlainPicture.SLOPE, 9, 8, 7, 6, 5, 4, 3, 2, 1));
        x.write();
        CHECK.same("the picture stays", x.count(0), 3);
        CHECK.same("its coefficients stay", x.block(0, 2), 9);
        CHECK.same("one block", x.decode(), 1);
        CHECK.same("no coefficient stays", x.block(0, 2), 0);
        CHECK.same("no block stays", x.block(1, 0), -1);
        CHECK.same("no sample stays", x.sample(4, 0), -1);
        CHECK.same("no level stays", x.count(3), 0);
        CHECK.same("no changes stay", x.count(6), 0);
        checkFlat("the new one", x, 0, 0, 128);

        PlainPicture told = new PlainPicture(1, 1, 0, 0).with(0, PlainPicture.EVEN, 1);
        told.told[0][0][0] = 255;
        told.told[0][0][1] = 3;
        KeyFrames y = decoded(told);
        CHECK.same("told", y.count(4), 2);
        y.erase();
        int[] plain = new PlainPicture(1, 1, 0, 0).with(0, PlainPicture.EVEN, -2, 1).pack();
        for (int octet : plain) {
            y.feed(1, octet << 24, 0, 0, 0);
        }
        y.decode();
        CHECK.same("not told", y.count(4), 0);
        CHECK.same("with 128 again", y.block(0, 2), -2);
        CHECK.same("with 128 again", y.block(0, 3), 1);
    }

    private static void refusals() {
        KeyFrames x = new KeyFrames();
        for (int round = 0; round < 2; round++) {
            for (int what : new int[] {-1, 7, Integer.MIN_VALUE, Integer.MAX_VALUE}) {
                CHECK.refusesArgument("count " + what, () -> x.count(what));
            }
            CHECK.refusesArgument("block 18", () -> x.block(0, 18));
            CHECK.refusesArgument("block -1", () -> x.block(0, -1));
            x.decode();
        }
    }

    /** Bytes of 255 alone: each bit is 1, and stays so beyond the bytes. */
    private static void allBitsOne() {
        KeyFrames x = Feeder.fed(255, 255, 255, 255);
        CHECK.same("blocks", x.decode(), 16);
        int[] counts = {4, 4, 127, 63, 264};
        for (int what = 0; what < 5; what++) {
            CHECK.same("count " + what, x.count(what), counts[what]);
        }
        for (int k = 0; k < 16; k++) {
            CHECK.same("way", x.block(k, 0), 3);
            CHECK.same("read", x.block(k, 1), 16);
            CHECK.same("first", x.block(k, 2), -2114);
            CHECK.same("last", x.block(k, 17), -2114);
        }
    }
}
