import java.util.Arrays;
import java.util.Random;

/** Promises 9 to 12: pictures at random, packed and worked out by the tests' own plain code. */
public final class RandomPictureTest {
    private static final Check CHECK = new Check("RandomPictureTest");
    private static final PictureCheck PICTURE = new PictureCheck(CHECK);
    private static final int[] LARGEST = {1, 2, 5, 20, 100, 2114};

    public static void main(String[] args) {
        picturesThatWerePacked();
        bytesThatNobodyPacked();
        CHECK.close();
    }

    private static void picturesThatWerePacked() {
        int checked = 0;
        int filtered = 0;
        for (int seed = 0; seed < 600; seed++) {
            PlainPicture picture = picture(new Random(seed));
            if (picture.pack().length <= 600) {
                PICTURE.all("picture " + seed, picture);
                checked++;
                filtered += picture.foursChanged > 0 ? 1 : 0;
            }
        }
        CHECK.isTrue("most pictures fit", checked > 400);
        CHECK.isTrue("many are filtered", filtered > 100);
    }

    /** Whatever bytes there are, they are a picture; most go on beyond their end. */
    private static void bytesThatNobodyPacked() {
        int beyond = 0;
        for (int seed = 0; seed < 600; seed++) {
            Random random = new Random(seed);
            int[] octets = random.ints(random.nextInt(seed % 2 == 0 ? 30 : 601), 0, 256).toArray();
            if (octets.length > 0 && seed % 10 == 0) {
                octets[0] = 254 + random.nextInt(2);
            }
            // The flags of the probabilities stand in the bytes: few of them are told where zeros begin so.
            if (seed % 3 == 0) {
                Arrays.fill(octets, Math.min(3, octets.length), Math.min(6, octets.length), 0);
            }
            Unpacker bits = new Unpacker(octets);
            PlainPicture picture = PlainPicture.unpacked(bits);
            PICTURE.samples("bytes " + seed, picture, octets, bits.beyond());
            PICTURE.blocks("bytes " + seed, picture, octets);
            beyond += bits.beyond() > 0 ? 1 : 0;
        }
        CHECK.isTrue("many go on beyond", beyond > 100);
        CHECK.isTrue("many do not", beyond < 500);
    }

    private static PlainPicture picture(Random random) {
        PlainPicture picture = new PlainPicture(
                1 + random.nextInt(4), 1 + random.nextInt(4),
                random.nextInt(3) == 0 ? random.nextInt(128) : random.nextInt(12),
                random.nextInt(4) == 0 ? 0 : random.nextInt(64));
        tell(picture, random);
        int largest = LARGEST[random.nextInt(LARGEST.length)];
        int longest = 1 + random.nextInt(16);
        for (int k = 0; k < picture.ways.length; k++) {
            picture.with(k, random.nextInt(4), coefficients(random, largest, longest));
        }
        return picture;
    }

    private static void tell(PlainPicture picture, Random random) {
        int oneIn = new int[] {1000, 20, 4, 2}[random.nextInt(4)];
        for (int i = 0; i < 264; i++) {
            if (random.nextInt(oneIn) == 0) {
                // The ends, 0 among them, come often enough; the rest keeps the bytes few.
                int told = random.nextInt(6) == 0 ? 255 * random.nextInt(2) : 64 + random.nextInt(128);
                picture.told[i / 33][i / 11 % 3][i % 11] = told;
            }
        }
    }

    private static int[] coefficients(Random random, int largest, int longest) {
        int many = random.nextInt(longest + 1);
        int[] coefficients = new int[many];
        for (int i = 0; i < many; i++) {
            int size = random.nextInt(3) == 0 ? 0 : 1 + random.nextInt(largest);
            coefficients[i] = random.nextBoolean() ? size : -size;
        }
        if (many > 0 && many < 16 && coefficients[many - 1] == 0) {
            coefficients[many - 1] = 1;
        }
        return coefficients;
    }
}
