import java.util.Random;

/** Promises 9 to 12: pictures at random, packed and worked out by the tests' own plain code. */
public final class RandomPictureTest {
    private static final Check CHECK = new Check("RandomPictureTest");
    private static final int[] LARGEST = {1, 2, 5, 20, 100, 2114};

    public static void main(String[] args) {
        int checked = 0;
        int filtered = 0;
        for (int seed = 0; seed < 600; seed++) {
            PlainPicture picture = picture(new Random(seed));
            int[] octets = picture.pack();
            if (octets.length <= 600) {
                int[][] samples = picture.samples();
                checkSamples(seed, picture, samples, octets);
                checkBlocks(seed, picture, octets);
                checked++;
                filtered += picture.foursChanged > 0 ? 1 : 0;
            }
        }
        CHECK.isTrue("most pictures fit", checked > 400);
        CHECK.isTrue("many are filtered", filtered > 100);
        CHECK.close();
    }

    private static PlainPicture picture(Random random) {
        PlainPicture picture = new PlainPicture(
                1 + random.nextInt(4), 1 + random.nextInt(4),
                random.nextInt(3) == 0 ? random.nextInt(128) : random.nextInt(12),
                random.nextInt(4) == 0 ? 0 : random.nextInt(64));
        tell(picture, random);
        int largest = LARGEST[random.nextInt(LARGEST.length)];
        int longest = 1 + random.nextInt(16);
        for (int k = 0; k < picture.ways.length; k++) {
            picture.with(k, random.nextInt(4), coefficients(random, largest, longest));
        }
        return picture;
    }

    private static void tell(PlainPicture picture, Random random) {
        int oneIn = new int[] {1000, 20, 4, 2}[random.nextInt(4)];
        for (int i = 0; i < 264; i++) {
            if (random.nextInt(oneIn) == 0) {
                // The ends, 0 among them, come often enough; the rest keeps the bytes few.
                int told = random.nextInt(6) == 0 ? 255 * random.nextInt(2) : 64 + random.nextInt(128);
                picture.told[i / 33][i / 11 % 3][i % 11] = told;
            }
        }
    }

    private static int[] coefficients(Random random, int largest, int longest) {
        int many = random.nextInt(longest + 1);
        int[] coefficients = new int[many];
        for (int i = 0; i < many; i++) {
            int size = random.nextInt(3) == 0 ? 0 : 1 + random.nextInt(largest);
            coefficients[i] = random.nextBoolean() ? size : -size;
        }
        if (many > 0 && many < 16 && coefficients[many - 1] == 0) {
            coefficients[many - 1] = 1;
        }
        return coefficients;
    }

    private static void checkSamples(int seed, PlainPicture picture, int[][] samples, int[] octets) {
        KeyFrames x = Feeder.fed(octets);
        CHECK.same("blocks of " + seed, x.decode(), picture.ways.length);
        int[] counts = {
            picture.columns, picture.rows, picture.q, picture.level, picture.howManyTold(), 0, picture.foursChanged
        };
        for (int what = 0; what < 7; what++) {
            CHECK.same("count " + what + " of " + seed, x.count(what), counts[what]);
        }
        for (int y = 0; y < samples.length; y++) {
            for (int i = 0; i < samples[y].length; i++) {
                CHECK.same("sample " + i + ", " + y + " of " + seed, x.sample(i, y), samples[y][i]);
            }
        }
    }

    private static void checkBlocks(int seed, PlainPicture picture, int[] octets) {
        KeyFrames x = Feeder.decoded(octets);
        for (int k = 0; k < picture.ways.length; k++) {
            CHECK.same("way " + k + " of " + seed, x.block(k, 0), picture.ways[k]);
            CHECK.same("read " + k + " of " + seed, x.block(k, 1), picture.read[k]);
            for (int i = 0; i < 16; i++) {
                CHECK.same("coefficient " + k + ", " + i + " of " + seed, x.block(k, 2 + i), picture.coefficients[k][i]);
            }
        }
    }
}
