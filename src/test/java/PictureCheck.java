/** Compares what an object tells of its picture with a plain picture; each call needs an object of its own. */
final class PictureCheck {
    private final Check check;

    PictureCheck(Check check) {
        this.check = check;
    }

    /** Packs the picture, decodes it, and compares all of it. */
    void all(String what, PlainPicture picture) {
        int[] octets = picture.pack();
        samples(what, picture, octets, 0);
        blocks(what, picture, octets);
    }

    void samples(String what, PlainPicture picture, int[] octets, int beyond) {
        int[][] samples = picture.samples();
        KeyFrames x = Feeder.fed(octets);
        check.same("blocks of " + what, x.decode(), picture.ways.length);
        int[] counts = {
            picture.columns, picture.rows, picture.q, picture.level, picture.howManyTold(), beyond, picture.foursChanged
        };
        for (int i = 0; i < 7; i++) {
            check.same("count " + i + " of " + what, x.count(i), counts[i]);
        }
        for (int y = 0; y < samples.length; y++) {
            check.row(what, x, 0, y, samples[y]);
        }
    }

    void blocks(String what, PlainPicture picture, int[] octets) {
        KeyFrames x = Feeder.decoded(octets);
        for (int k = 0; k < picture.ways.length; k++) {
            check.same("way " + k + " of " + what, x.block(k, 0), picture.ways[k]);
            check.same("read " + k + " of " + what, x.block(k, 1), picture.read[k]);
            for (int i = 0; i < 16; i++) {
                check.same("coefficient " + k + ", " + i + " of " + what, x.block(k, 2 + i), picture.coefficients[k][i]);
            }
        }
    }
}
