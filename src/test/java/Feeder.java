/** Feeds bytes, sixteen at a call. */
final class Feeder {
    private Feeder() {
    }

    static KeyFrames fed(int... octets) {
        KeyFrames x = new KeyFrames();
        feed(x, octets);
        return x;
    }

    static void feed(KeyFrames x, int... octets) {
        for (int from = 0; from < octets.length; from += 16) {
            int many = Math.min(16, octets.length - from);
            x.feed(many, four(octets, from), four(octets, from + 4), four(octets, from + 8), four(octets, from + 12));
        }
    }

    /** So many bytes of 0. */
    static KeyFrames fedZeros(int many) {
        return fed(new int[many]);
    }

    static KeyFrames reading(int... octets) {
        KeyFrames x = fed(octets);
        x.read();
        return x;
    }

    static KeyFrames decoded(int... octets) {
        KeyFrames x = fed(octets);
        x.decode();
        return x;
    }

    static KeyFrames decoded(PlainPicture picture) {
        return decoded(picture.pack());
    }

    private static int four(int[] octets, int from) {
        int four = 0;
        for (int i = from; i < from + 4; i++) {
            four = (four << 8) | (i < octets.length ? octets[i] : 0);
        }
        return four;
    }
}
