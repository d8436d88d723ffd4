/** Promises 9 (decode), 10 (sample), 11 (block) and 12 (count), by pictures worked out by hand. */
public final class PictureTest {
    private static final Check CHECK = new Check("PictureTest");

    public static void main(String[] args) {
        noBytes();
        decodeTakesWritingAsItStands();
        waysAtTheEdges();
        zerosGiveNoContext();
        samplesOfOneCoefficient();
        filterOrder();
        octetsBeyond();
        laterPictures();
        allBitsOne();
        CHECK.close();
    }

    private static void noBytes() {
        KeyFrames x = new KeyFrames();
        CHECK.same("decode of no bytes", x.decode(), 1);
        int[] counts = {1, 1, 0, 0, 0, 5, 0};
        for (int what = 0; what < 7; what++) {
            CHECK.same("count " + what, x.count(what), counts[what]);
        }
        CHECK.flat("even at both edges", x, 0, 0, 128);
        CHECK.same("its way", x.block(0, 0), 0);
        CHECK.same("none read", x.block(0, 1), 0);
        CHECK.same("still no bytes", x.octet(0), -1);
        for (int[] at : new int[][] {{4, 0}, {0, 4}, {-1, 0}, {0, -1}, {Integer.MAX_VALUE, 0}, {0, Integer.MIN_VALUE}}) {
            CHECK.same("sample outside", x.sample(at[0], at[1]), -1);
        }
    }

    private static void decodeTakesWritingAsItStands() {
        KeyFrames x = new KeyFrames();
        x.write();
        // Without its end just three bytes are written, enough for what is told in them.
        x.put(128, 0xF, 4);
        x.put(128, 0x55, 7);
        CHECK.same("three bytes", x.put(128, 0, 32), 3);
        CHECK.same("decode", x.decode(), 16);
        CHECK.same("Q", x.count(2), 0x55);
        CHECK.isTrue("beyond", x.count(5) > 0);
        CHECK.isTrue("the bytes stay", x.octet(2) != -1);
        CHECK.same("no end of it", x.octet(3), -1);
    }

    private static void waysAtTheEdges() {
        PlainPicture picture = new PlainPicture(2, 2, 0, 0)
                .with(0, PlainPicture.EVEN).with(1, PlainPicture.DOWN)
                .with(2, PlainPicture.ACROSS).with(3, PlainPicture.SLOPE);
        KeyFrames x = Feeder.decoded(picture);
        CHECK.flat("even", x, 0, 0, 128);
        CHECK.flat("down", x, 1, 0, 127);
        CHECK.flat("across", x, 0, 1, 129);
        CHECK.flat("slope", x, 1, 1, 129 + 127 - 128);
        for (int k = 0; k < 4; k++) {
            CHECK.same("way " + k, x.block(k, 0), k);
        }
        PlainPicture slopes = new PlainPicture(2, 2, 0, 0);
        for (int k = 0; k < 4; k++) {
            slopes.with(k, PlainPicture.SLOPE);
        }
        slopes.with(0, PlainPicture.SLOPE, 8);
        KeyFrames y = Feeder.decoded(slopes);
        // Left 129, above 127 and the corner 127; then 4 more by the coefficient 8: (8 * 4 + 4) / 8.
        CHECK.flat("slope in the corner", y, 0, 0, 133);
        CHECK.flat("slope in row 0", y, 1, 0, 133);
        CHECK.flat("slope in column 0", y, 0, 1, 133);
        CHECK.flat("slope inside", y, 1, 1, 133);
        KeyFrames z = Feeder.decoded(new PlainPicture(1, 1, 0, 0).with(0, PlainPicture.ACROSS));
        CHECK.flat("across in the corner", z, 0, 0, 129);
        KeyFrames down = Feeder.decoded(new PlainPicture(1, 2, 0, 0).with(0, PlainPicture.ACROSS).with(1, PlainPicture.DOWN));
        CHECK.flat("down in row 1", down, 0, 1, 129);
    }

    /** Block 0 has sixteen that are 0, so block 1 has the context 0, and its first bit is nearly never 0. */
    private static void zerosGiveNoContext() {
        PlainPicture picture = new PlainPicture(2, 1, 0, 0)
                .with(0, PlainPicture.EVEN, new int[16]).with(1, PlainPicture.EVEN, 3, -4);
        picture.told[0][0][0] = 1;
        picture.told[0][1][0] = 255;
        KeyFrames x = Feeder.decoded(picture);
        CHECK.same("all zeros", x.block(0, 1), 16);
        CHECK.same("two", x.block(1, 1), 2);
        CHECK.same("first", x.block(1, 2), 3);
        CHECK.same("second", x.block(1, 3), -4);
    }

    private static void samplesOfOneCoefficient() {
        // Place 1 (of POSITION 1) times 4 + 9 + 4: 17; m(17) = 22, h(17) = 9: rows of 22, 9, -9, -22, rounded.
        KeyFrames x = Feeder.decoded(new PlainPicture(1, 1, 9, 0).with(0, PlainPicture.EVEN, 0, 1));
        // Place 4 (of POSITION 2) is the same downwards.
        KeyFrames y = Feeder.decoded(new PlainPicture(1, 1, 9, 0).with(0, PlainPicture.EVEN, 0, 0, 1));
        int[] due = {131, 129, 127, 125};
        for (int i = 0; i < 16; i++) {
            CHECK.same("along a row", x.sample(i % 4, i / 4), due[i % 4]);
            CHECK.same("down a column", y.sample(i % 4, i / 4), due[i / 4]);
        }
        // Place 0 is times 4 + 9, cut downwards: (-13 + 4) / 8 is -2.
        CHECK.flat("place 0", Feeder.decoded(new PlainPicture(1, 1, 9, 0).with(0, PlainPicture.EVEN, -1)), 0, 0, 126);
        CHECK.flat("place 0", Feeder.decoded(new PlainPicture(1, 1, 9, 0).with(0, PlainPicture.EVEN, 1)), 0, 0, 130);
    }

    /** Where edges cross, what is filtered first is seen by what comes later. */
    private static void filterOrder() {
        PlainPicture picture = new PlainPicture(2, 2, 20, 40)
                .with(0, PlainPicture.EVEN, 6).with(1, PlainPicture.DOWN, -5)
                .with(2, PlainPicture.ACROSS, 0, 3).with(3, PlainPicture.SLOPE, 2, 0, -2);
        int[][] due = picture.samples();
        KeyFrames x = Feeder.decoded(picture);
        for (int i = 0; i < 64; i++) {
            CHECK.same("filtered", x.sample(i % 8, i / 8), due[i / 8][i % 8]);
        }
        CHECK.same("fours", x.count(6), picture.foursChanged);
        CHECK.isTrue("some were changed", picture.foursChanged > 0);
    }

    /** A picture of zeros takes five bytes, the first two among them. */
    private static void octetsBeyond() {
        for (int many = 0; many <= 7; many++) {
            KeyFrames x = new KeyFrames();
            x.feed(many, 0, 0, 0, 0);
            x.decode();
            CHECK.same("beyond " + many, x.count(5), Math.max(0, 5 - many));
            x.feed(16, 0, 0, 0, 0);
            CHECK.same("of the picture, not of the bytes now", x.count(5), Math.max(0, 5 - many));
        }
    }

    private static void laterPictures() {
        KeyFrames x = Feeder.decoded(new PlainPicture(3, 2, 30, 9).with(0, PlainPicture.SLOPE, 9, 8, 7, 6, 5, 4, 3, 2, 1));
        x.write();
        CHECK.same("the picture stays", x.count(0), 3);
        CHECK.same("its coefficients stay", x.block(0, 2), 9);
        CHECK.same("one block", x.decode(), 1);
        CHECK.same("no coefficient stays", x.block(0, 2), 0);
        CHECK.same("no block stays", x.block(1, 0), -1);
        CHECK.same("no sample stays", x.sample(4, 0), -1);
        CHECK.same("no level stays", x.count(3), 0);
        CHECK.same("no changes stay", x.count(6), 0);
        CHECK.flat("the new one", x, 0, 0, 128);

        PlainPicture told = new PlainPicture(1, 1, 0, 0).with(0, PlainPicture.EVEN, 1);
        told.told[0][0][0] = 255;
        told.told[0][0][1] = 3;
        KeyFrames y = Feeder.decoded(told);
        CHECK.same("told", y.count(4), 2);
        y.erase();
        int[] plain = new PlainPicture(1, 1, 0, 0).with(0, PlainPicture.EVEN, -2, 1).pack();
        for (int octet : plain) {
            y.feed(1, octet << 24, 0, 0, 0);
        }
        y.decode();
        CHECK.same("not told", y.count(4), 0);
        CHECK.same("with 128 again", y.block(0, 2), -2);
        CHECK.same("with 128 again", y.block(0, 3), 1);
    }

    /** Bytes of 255 alone: each bit is 1, and stays so beyond the bytes. */
    private static void allBitsOne() {
        KeyFrames x = Feeder.fed(255, 255, 255, 255);
        CHECK.same("blocks", x.decode(), 16);
        int[] counts = {4, 4, 127, 63, 264};
        for (int what = 0; what < 5; what++) {
            CHECK.same("count " + what, x.count(what), counts[what]);
        }
        for (int k = 0; k < 16; k++) {
            CHECK.same("way", x.block(k, 0), 3);
            CHECK.same("read", x.block(k, 1), 16);
            CHECK.same("first", x.block(k, 2), -2114);
            CHECK.same("last", x.block(k, 17), -2114);
        }
    }
}
