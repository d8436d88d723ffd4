import java.util.function.Consumer;

/** Promises 1 to 13: the last number that a call allows and the first that it does not; empty and full. */
public final class CallEdgesTest {
    private static final Check CHECK = new Check("CallEdgesTest");
    private static final int LEAST = Integer.MIN_VALUE;
    private static final int MOST = Integer.MAX_VALUE;
    private static final int[] NO_PROBABILITY = {0, 256, -1, -128, 128 + 256, LEAST, MOST};
    private static final int[] NOT_SO_MANY_BITS = {-1, 33, 64, LEAST, MOST};

    public static void main(String[] args) {
        newObjectIsEmpty();
        feedManyOf16();
        feedUpTo600();
        octetsAreBytes();
        feedEndsWhatIsBegun();
        eraseOfNoneAndOfAll();
        writeOverBytes();
        putNumbers();
        putBitsOfOneNumber();
        putNeedsWriting();
        putUpTo560();
        endNeedsWriting();
        readOfNoneAndOfAll();
        getNumbers();
        getNeedsReading();
        decodeOfNoneAndOfAll();
        decodeEndsWhatIsBegun();
        sampleNone();
        blockNone();
        blockWhat();
        countBeforeAPicture();
        countWhat();
        countBeyond();
        octetNone();
        the512thCall();
        CHECK.close();
    }

    private static KeyFrames writing() {
        KeyFrames x = new KeyFrames();
        x.write();
        return x;
    }

    /** So many bytes by writing: each BIT 0 with 1 is 7 doublings, the first byte is written by the 24th. */
    private static KeyFrames written(int octets) {
        KeyFrames x = writing();
        int bits = (8 * octets + 16 + 6) / 7;
        x.put(1, 0, bits % 32);
        for (int i = 0; i < bits / 32; i++) {
            x.put(1, 0, 32);
        }
        return x;
    }

    private static void newObjectIsEmpty() {
        CHECK.sentence("No BYTES, nothing begun, no PICTURE");
        CHECK.same("octet", new KeyFrames().octet(0), -1);
        CHECK.same("bytes", new KeyFrames().erase(), 0);
        CHECK.same("bytes", new KeyFrames().feed(0, -1, -1, -1, -1), 0);
        CHECK.refusesState("put", () -> new KeyFrames().put(128, 0, 1));
        CHECK.refusesState("end", () -> new KeyFrames().end());
        CHECK.refusesState("get", () -> new KeyFrames().get(128, 1));
        CHECK.same("sample", new KeyFrames().sample(0, 0), -1);
        CHECK.same("way", new KeyFrames().block(0, 0), -1);
    }

    private static void feedManyOf16() {
        CHECK.sentence("many is not 0 .. 16");
        for (int many : new int[] {-1, 17, 32, LEAST, MOST}) {
            KeyFrames x = Feeder.fed(7, 8);
            CHECK.refusesArgument("feed " + many, () -> x.feed(many, 1, 2, 3, 4));
            CHECK.same("no byte more", x.octet(2), -1);
        }
        KeyFrames x = new KeyFrames();
        CHECK.same("feed 0", x.feed(0, -1, -1, -1, -1), 0);
        CHECK.same("none came", x.octet(0), -1);
        CHECK.same("feed 1", x.feed(1, 0x01FFFFFF, -1, -1, -1), 1);
        CHECK.same("one came", x.octet(1), -1);
        CHECK.same("feed 16", x.feed(16, 0x02030405, 0x06070809, 0x0A0B0C0D, 0x0E0F1011), 17);
        for (int k = 0; k < 17; k++) {
            CHECK.same("octet " + k, x.octet(k), k + 1);
        }
        CHECK.same("sixteen came", x.octet(17), -1);
    }

    private static void feedUpTo600() {
        CHECK.sentence("there would be more than 600");
        for (int many = 1; many <= 16; many++) {
            int more = many;
            KeyFrames full = Feeder.fedZeros(600 - many);
            CHECK.refusesState("one too many", () -> Feeder.fedZeros(601 - more).feed(more, 0, 0, 0, 0));
            CHECK.same("just 600", full.feed(many, -1, -1, -1, -1), 600);
            CHECK.same("the last", full.octet(599), 255);
            CHECK.same("behind it", full.octet(600), -1);
        }
        KeyFrames full = Feeder.fedZeros(600);
        CHECK.refusesState("600 and 1", () -> full.feed(1, 0, 0, 0, 0));
        CHECK.refusesState("600 and 16", () -> full.feed(16, 0, 0, 0, 0));
        CHECK.refusesArgument("600 and 17", () -> full.feed(17, 0, 0, 0, 0));
        CHECK.refusesArgument("600 and the most", () -> full.feed(MOST, 0, 0, 0, 0));
        CHECK.same("600 and 0", full.feed(0, 0, 0, 0, 0), 600);
        CHECK.same("there were", full.erase(), 600);
        CHECK.same("room again", full.feed(16, 0, 0, 0, 0), 16);
        // Bytes that were written count like those that were fed.
        KeyFrames ended = written(588);
        CHECK.same("the most by writing", ended.end(), 592);
        CHECK.refusesState("592 and 9", () -> ended.feed(9, 0, 0, 0, 0));
        CHECK.same("592 and 8", ended.feed(8, 0, 0, 0, 0), 600);
    }

    private static void octetsAreBytes() {
        CHECK.sentence("BYTES are at most 600, 0 .. 255");
        KeyFrames x = new KeyFrames();
        for (int k = 0; k < 256; k++) {
            x.feed(1, k << 24 | 0xABCDEF, 0, 0, 0);
        }
        for (int k = 0; k < 255; k++) {
            CHECK.same("octet " + k, x.octet(k), k);
        }
        KeyFrames last = Feeder.fed(255, 0, 128, 127);
        CHECK.same("255", last.octet(0), 255);
        CHECK.same("0", last.octet(1), 0);
        CHECK.same("128", last.octet(2), 128);
        CHECK.same("127", last.octet(3), 127);
    }

    private static void feedEndsWhatIsBegun() {
        CHECK.sentence("Reading, writing are not begun then");
        endsWhatIsBegun("feed of none", x -> x.feed(0, 0, 0, 0, 0));
        endsWhatIsBegun("feed of one", x -> x.feed(1, 0, 0, 0, 0));
        endsWhatIsBegun("feed of sixteen", x -> x.feed(16, 0, 0, 0, 0));
    }

    private static void endsWhatIsBegun(String call, Consumer<KeyFrames> made) {
        KeyFrames wrote = writing();
        wrote.put(128, 5, 3);
        made.accept(wrote);
        CHECK.refusesState("put behind " + call, () -> wrote.put(128, 0, 1));
        CHECK.refusesState("end behind " + call, () -> wrote.end());
        CHECK.refusesState("get behind " + call, () -> wrote.get(128, 1));
        KeyFrames read = Feeder.reading(1, 2, 3);
        read.get(128, 5);
        made.accept(read);
        CHECK.refusesState("get behind " + call, () -> read.get(128, 1));
        CHECK.refusesState("put behind " + call, () -> read.put(128, 0, 1));
        CHECK.refusesState("end behind " + call, () -> read.end());
    }

    private static void eraseOfNoneAndOfAll() {
        CHECK.sentence("No BYTES: how many there were. Nothing is begun");
        for (int many : new int[] {0, 1, 599, 600}) {
            KeyFrames x = Feeder.fedZeros(many);
            CHECK.same("there were", x.erase(), many);
            CHECK.same("no first", x.octet(0), -1);
            CHECK.same("no last", x.octet(many - 1), -1);
            CHECK.same("there are none", x.erase(), 0);
            CHECK.same("from the first again", x.feed(1, 9 << 24, 0, 0, 0), 1);
            CHECK.same("it", x.octet(0), 9);
        }
        CHECK.same("while writing", written(26).erase(), 26);
        endsWhatIsBegun("erase", x -> x.erase());
        // What was erased does not come back to reading.
        KeyFrames x = Feeder.fed(0x5A, 0x5A, 0x5A, 0x5A);
        x.erase();
        x.read();
        CHECK.same("erased bytes read as 0", x.get(128, 32), 0);
    }

    private static void writeOverBytes() {
        CHECK.sentence("Writing begins: no BYTES");
        for (int many : new int[] {0, 1, 600}) {
            KeyFrames x = Feeder.fedZeros(many);
            x.write();
            CHECK.same("no bytes", x.octet(0), -1);
            CHECK.same("put from none", x.put(128, 0, 32), 1);
            x.write();
            CHECK.same("and again", x.put(128, 0, 0), 0);
            CHECK.same("an END of nothing", x.end(), 4);
            CHECK.same("is 0", x.octet(0), 0);
        }
        KeyFrames full = written(588);
        full.write();
        CHECK.same("there is room again", full.put(1, 0, 32), 26);
    }

    private static void putNumbers() {
        CHECK.sentence("put: p is not 1 .. 255, many not 0 .. 32");
        for (KeyFrames x : new KeyFrames[] {new KeyFrames(), writing(), Feeder.reading(1, 2), written(588)}) {
            for (int p : NO_PROBABILITY) {
                CHECK.refusesArgument("put with " + p, () -> x.put(p, 1, 1));
                CHECK.refusesArgument("put none with " + p, () -> x.put(p, 1, 0));
            }
            for (int many : NOT_SO_MANY_BITS) {
                CHECK.refusesArgument("put " + many, () -> x.put(128, 1, many));
            }
        }
        CHECK.same("put 0", writing().put(128, -1, 0), 0);
        CHECK.same("put 32", writing().put(128, -1, 32), 2);
        // A BIT that is unlikely is 7 doublings: 28 bytes for 32 of them, less the two that the first byte waits.
        CHECK.same("put with 1", writing().put(1, 0, 32), 26);
        CHECK.same("put with 255", writing().put(255, -1, 32), 26);
        // With the other BIT RANGE only goes from 255 to 224.
        CHECK.same("put 1 with 1", writing().put(1, -1, 31), 0);
    }

    private static void putBitsOfOneNumber() {
        CHECK.sentence("the lowest ones of a number, the highest first");
        int[] numbers = {0, -1, 1, LEAST, MOST, 0x12345678, 0xA5A5A5A5};
        for (int many = 0; many <= 32; many++) {
            KeyFrames x = writing();
            for (int number : numbers) {
                x.put(128, number, many);
            }
            x.end();
            x.read();
            for (int number : numbers) {
                int due = 0;
                for (int i = many - 1; i >= 0; i--) {
                    due = 2 * due + ((number >> i) & 1);
                }
                CHECK.same(many + " of " + number, x.get(128, many), due);
            }
        }
    }

    private static void putNeedsWriting() {
        CHECK.sentence("put: writing is not begun");
        KeyFrames x = new KeyFrames();
        for (int many : new int[] {0, 1, 32}) {
            CHECK.refusesState("before write", () -> x.put(1, 0, many));
        }
        x.write();
        CHECK.same("behind write", x.put(128, 0, 1), 0);
        x.end();
        for (int many : new int[] {0, 1, 32}) {
            CHECK.refusesState("behind end", () -> x.put(255, 0, many));
        }
        CHECK.same("no byte came", x.octet(4), -1);
        x.read();
        CHECK.refusesState("while reading", () -> x.put(128, 0, 1));
        x.write();
        CHECK.same("behind write", x.put(128, 0, 1), 0);
        x.read();
        CHECK.refusesState("reading took over", () -> x.put(128, 0, 1));
    }

    private static void putUpTo560() {
        CHECK.sentence("or there are more than 560 BYTES");
        for (int many : new int[] {0, 1, 32}) {
            KeyFrames last = written(560);
            CHECK.same("at 560", last.octet(559) + last.octet(560), -1);
            CHECK.same("put " + many + " at 560", last.put(1, 0, many), many == 32 ? 588 : many + 560);
            KeyFrames first = written(561);
            CHECK.same("at 561", first.octet(560) + first.octet(561), -1);
            CHECK.refusesState("put " + many + " at 561", () -> first.put(1, 0, many));
            CHECK.refusesArgument("a wrong number at 561", () -> first.put(0, 0, many));
            CHECK.same("its END", first.end(), 565);
        }
        KeyFrames full = written(560);
        CHECK.same("at most", full.put(1, 0, 32), 588);
        CHECK.refusesState("at 588", () -> full.put(128, 0, 0));
        CHECK.same("its END", full.end(), 592);
        CHECK.same("last", full.octet(591), 0);
        CHECK.same("behind it", full.octet(592), -1);
    }

    private static void endNeedsWriting() {
        CHECK.sentence("end: it is not begun");
        KeyFrames x = new KeyFrames();
        CHECK.refusesState("before write", () -> x.end());
        x.write();
        CHECK.same("of nothing", x.end(), 4);
        CHECK.refusesState("twice", () -> x.end());
        CHECK.same("no byte came", x.octet(4), -1);
        x.read();
        CHECK.refusesState("while reading", () -> x.end());
        x.write();
        x.read();
        CHECK.refusesState("reading took over", () -> x.end());
    }

    private static void readOfNoneAndOfAll() {
        CHECK.sentence("Reading begins");
        KeyFrames none = new KeyFrames();
        none.read();
        CHECK.same("no bytes", none.get(128, 32), 0);
        CHECK.same("there are none still", none.octet(0), -1);
        KeyFrames all = Feeder.fedZeros(584);
        all.feed(16, 0, 0, 0, 0x0000005A);
        all.read();
        for (int i = 0; i < 149; i++) {
            CHECK.same("zeros", all.get(128, 32), 0);
        }
        CHECK.same("the last bytes", all.get(128, 32), 0x5A);
        CHECK.same("behind them", all.get(128, 32), 0);
        all.read();
        CHECK.same("the first bytes again", all.get(128, 32), 0);
        CHECK.same("all are there", all.erase(), 600);
    }

    private static void getNumbers() {
        CHECK.sentence("get: p is not 1 .. 255, many not 0 .. 32");
        for (KeyFrames x : new KeyFrames[] {new KeyFrames(), writing(), Feeder.reading(1, 2)}) {
            for (int p : NO_PROBABILITY) {
                CHECK.refusesArgument("get with " + p, () -> x.get(p, 1));
                CHECK.refusesArgument("get none with " + p, () -> x.get(p, 0));
            }
            for (int many : NOT_SO_MANY_BITS) {
                CHECK.refusesArgument("get " + many, () -> x.get(128, many));
            }
        }
        KeyFrames x = Feeder.reading(0x80, 0, 0, 0, 0x80);
        CHECK.same("get 0", x.get(128, 0), 0);
        CHECK.same("get 32", x.get(128, 32), LEAST);
        CHECK.same("get with 1", Feeder.reading(1, 0).get(1, 1), 1);
        CHECK.same("get with 255", Feeder.reading(254, 0).get(255, 1), 1);
    }

    private static void getNeedsReading() {
        CHECK.sentence("get: reading is not begun");
        KeyFrames x = Feeder.fed(1, 2, 3);
        for (int many : new int[] {0, 1, 32}) {
            CHECK.refusesState("before read", () -> x.get(1, many));
        }
        x.read();
        CHECK.same("behind read", x.get(128, 8), 1);
        x.write();
        for (int many : new int[] {0, 1, 32}) {
            CHECK.refusesState("while writing", () -> x.get(255, many));
        }
        x.end();
        CHECK.refusesState("behind end", () -> x.get(128, 1));
    }

    private static void decodeOfNoneAndOfAll() {
        CHECK.sentence("The BYTES are a PICTURE: how many BLOCKS");
        KeyFrames none = new KeyFrames();
        CHECK.same("no bytes", none.decode(), 1);
        CHECK.same("again", none.decode(), 1);
        CHECK.same("its last sample", none.sample(3, 3), 128);
        KeyFrames all = Feeder.fedZeros(600);
        CHECK.same("600 bytes", all.decode(), 1);
        CHECK.same("they stay", all.erase(), 600);
        for (int columns = 1; columns <= 4; columns++) {
            for (int rows = 1; rows <= 4; rows++) {
                int[] octets = new PlainPicture(columns, rows, 0, 0).pack();
                CHECK.same(columns + " by " + rows, Feeder.fed(octets).decode(), columns * rows);
            }
        }
    }

    private static void decodeEndsWhatIsBegun() {
        CHECK.sentence("Nothing is begun then");
        endsWhatIsBegun("decode", x -> x.decode());
        KeyFrames x = new KeyFrames();
        x.decode();
        CHECK.refusesState("get behind decode", () -> x.get(128, 0));
        CHECK.refusesState("put behind decode", () -> x.put(128, 0, 0));
        CHECK.refusesState("end behind decode", () -> x.end());
    }

    private static void sampleNone() {
        CHECK.sentence("A SAMPLE of the PICTURE; NONE");
        int[] beyond = {-1, -4, 16, 17, 256, LEAST, MOST, 1 << 28, -(1 << 28)};
        KeyFrames before = new KeyFrames();
        for (int at : beyond) {
            CHECK.same("before a picture", before.sample(at, 0), -1);
            CHECK.same("before a picture", before.sample(0, at), -1);
        }
        CHECK.same("before a picture", before.sample(0, 0), -1);
        for (int columns = 1; columns <= 4; columns++) {
            for (int rows = 1; rows <= 4; rows++) {
                KeyFrames x = Feeder.decoded(new PlainPicture(columns, rows, 0, 0));
                int right = 4 * columns;
                int below = 4 * rows;
                CHECK.isTrue("first", x.sample(0, 0) >= 0);
                CHECK.isTrue("last of a row", x.sample(right - 1, 0) >= 0);
                CHECK.isTrue("last of a column", x.sample(0, below - 1) >= 0);
                CHECK.isTrue("last", x.sample(right - 1, below - 1) >= 0);
                CHECK.same("right of all", x.sample(right, 0), -1);
                CHECK.same("right of the last", x.sample(right, below - 1), -1);
                CHECK.same("below all", x.sample(0, below), -1);
                CHECK.same("below the last", x.sample(right - 1, below), -1);
                for (int at : beyond) {
                    CHECK.same("x is " + at, x.sample(at, 1), -1);
                    CHECK.same("y is " + at, x.sample(1, at), -1);
                }
            }
        }
    }

    private static void blockNone() {
        CHECK.sentence("NONE if there is none such (of a COEFFICIENT 0)");
        noBlocks("before a picture", new KeyFrames(), 0, 1, 15, 16, -1, LEAST, MOST);
        for (int columns = 1; columns <= 4; columns++) {
            PlainPicture picture = new PlainPicture(columns, columns, 0, 0);
            int last = columns * columns - 1;
            for (int k = 0; k <= last; k++) {
                picture.with(k, PlainPicture.SLOPE, -1, 0, -1);
            }
            KeyFrames x = Feeder.decoded(picture);
            for (int k : new int[] {0, last}) {
                CHECK.same("way", x.block(k, 0), 3);
                CHECK.same("read", x.block(k, 1), 3);
                CHECK.same("a COEFFICIENT -1 is no NONE", x.block(k, 2), -1);
                CHECK.same("one that is 0", x.block(k, 3), 0);
                CHECK.same("the last that was read", x.block(k, 4), -1);
                for (int what = 5; what <= 17; what++) {
                    CHECK.same("one that was not read", x.block(k, what), 0);
                }
            }
            noBlocks("beyond " + last, x, last + 1, 16, 17, -1, LEAST, MOST, 1 << 28, -(1 << 28));
        }
    }

    private static void noBlocks(String what, KeyFrames x, int... numbers) {
        for (int k : numbers) {
            CHECK.same(what + ", way of " + k, x.block(k, 0), -1);
            CHECK.same(what + ", read of " + k, x.block(k, 1), -1);
            CHECK.same(what + ", first coefficient of " + k, x.block(k, 2), 0);
            CHECK.same(what + ", last coefficient of " + k, x.block(k, 17), 0);
        }
    }

    private static void blockWhat() {
        CHECK.sentence("block: not 0 .. 17");
        int[] sixteen = {1, 2, 3, 4, 5, 6, 7, 8, 9, 10, 11, 12, 13, 14, 15, -16};
        KeyFrames x = Feeder.decoded(new PlainPicture(1, 1, 0, 0).with(0, PlainPicture.ACROSS, sixteen));
        for (int what : new int[] {-1, 18, 19, LEAST, MOST, LEAST + 2, MOST - 16}) {
            for (int k : new int[] {0, 1, -1, LEAST, MOST}) {
                CHECK.refusesArgument("of a picture, " + what, () -> x.block(k, what));
                CHECK.refusesArgument("of none, " + what, () -> new KeyFrames().block(k, what));
            }
        }
        CHECK.same("0", x.block(0, 0), 2);
        CHECK.same("1", x.block(0, 1), 16);
        CHECK.same("2", x.block(0, 2), 1);
        CHECK.same("16", x.block(0, 16), 15);
        CHECK.same("17", x.block(0, 17), -16);
    }

    private static void countBeforeAPicture() {
        CHECK.sentence("0 before one");
        KeyFrames x = Feeder.fed(255, 255, 255);
        for (int what = 0; what <= 6; what++) {
            CHECK.same("count " + what, x.count(what), 0);
        }
        x.read();
        x.get(1, 32);
        x.write();
        x.put(128, 0, 32);
        x.end();
        for (int what = 0; what <= 6; what++) {
            CHECK.same("count " + what + " without decode", x.count(what), 0);
        }
    }

    private static void countWhat() {
        CHECK.sentence("another what");
        KeyFrames x = Feeder.decoded(new PlainPicture(3, 2, 127, 63).with(0, PlainPicture.DOWN, 1));
        for (int what : new int[] {-1, 7, 8, LEAST, MOST}) {
            CHECK.refusesArgument("of a picture, " + what, () -> x.count(what));
            CHECK.refusesArgument("of none, " + what, () -> new KeyFrames().count(what));
        }
        int[] due = {3, 2, 127, 63, 0, 0};
        for (int what = 0; what <= 5; what++) {
            CHECK.same("count " + what, x.count(what), due[what]);
        }
        CHECK.isTrue("count 6", x.count(6) >= 0);
    }

    /** A picture of zeros takes five bytes: two at first, then three for its 25 doublings or some more. */
    private static void countBeyond() {
        CHECK.sentence("how many BYTES reading went on beyond (0 if none)");
        int[] due = {5, 4, 3, 2, 1, 0, 0, 0};
        for (int many = 0; many < due.length; many++) {
            KeyFrames x = Feeder.fedZeros(many);
            x.decode();
            CHECK.same("zeros, " + many, x.count(5), due[many]);
        }
        PlainPicture picture = new PlainPicture(2, 2, 3, 0).with(0, PlainPicture.DOWN, 9, -9, 100).with(3, PlainPicture.EVEN, 77);
        int[] octets = picture.pack();
        Unpacker bits = new Unpacker();
        PlainPicture.unpacked(bits);
        CHECK.same("the tests' own coder on none", bits.beyond(), 5);
        for (int many = 0; many <= octets.length; many++) {
            int[] some = java.util.Arrays.copyOf(octets, many);
            Unpacker own = new Unpacker(some);
            PlainPicture.unpacked(own);
            CHECK.same("cut to " + many, Feeder.decoded(some).count(5), own.beyond());
        }
        CHECK.same("none is missing", Feeder.decoded(octets).count(5), 0);
    }

    private static void octetNone() {
        CHECK.sentence("Byte k; NONE");
        for (int many : new int[] {0, 1, 2, 599, 600}) {
            KeyFrames x = Feeder.fedZeros(many);
            CHECK.same("first of " + many, x.octet(0), many == 0 ? -1 : 0);
            CHECK.same("last of " + many, x.octet(many - 1), many == 0 ? -1 : 0);
            for (int k : new int[] {many, many + 1, 600, 601, -1, -600, LEAST, MOST}) {
                CHECK.same("octet " + k + " of " + many, x.octet(k), -1);
            }
        }
    }

    private static void the512thCall() {
        CHECK.sentence("An object is used for at most 512 calls");
        KeyFrames x = new KeyFrames();
        for (int i = 0; i < 170; i++) {
            x.write();
            x.put(255, -1, 32);
            x.end();
        }
        x.read();
        CHECK.same("the last call", x.get(255, 32), -1);
    }
}
