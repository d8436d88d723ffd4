/** Promises 1 (a new object), 2 (feed), 3 (erase) and 13 (octet). */
public final class BytesTest {
    private static final Check CHECK = new Check("BytesTest");

    public static void main(String[] args) {
        newObject();
        feedKeepsOrder();
        feedCutsToMany();
        refusedFeedChangesNothing();
        eraseForgetsBytes();
        CHECK.close();
    }

    private static void newObject() {
        KeyFrames x = new KeyFrames();
        CHECK.same("NONE", KeyFrames.NONE, -1);
        CHECK.same("new octet(0)", x.octet(0), -1);
        for (int what = 0; what <= 6; what++) {
            CHECK.same("new count " + what, x.count(what), 0);
        }
        CHECK.same("new sample", x.sample(0, 0), -1);
        CHECK.same("new way", x.block(0, 0), -1);
        CHECK.same("new coefficients read", x.block(0, 1), -1);
        CHECK.same("new coefficient", x.block(0, 2), 0);
        CHECK.refusesState("new put", () -> x.put(128, 0, 1));
        CHECK.refusesState("new end", () -> x.end());
        CHECK.refusesState("new get", () -> x.get(128, 1));
        CHECK.same("new erase", x.erase(), 0);
        CHECK.same("new feed of none", x.feed(0, 1, 2, 3, 4), 0);
    }

    private static void feedKeepsOrder() {
        KeyFrames x = new KeyFrames();
        CHECK.same("feed 16", x.feed(16, 0x00010203, 0x04050607, 0x08090A0B, 0x0C0D0E0F), 16);
        CHECK.same("feed 16 more", x.feed(16, 0xF0F1F2F3, 0xF4F5F6F7, 0xF8F9FAFB, 0xFCFDFEFF), 32);
        for (int k = 0; k < 16; k++) {
            CHECK.same("octet " + k, x.octet(k), k);
            CHECK.same("octet " + (16 + k), x.octet(16 + k), 240 + k);
        }
    }

    private static void feedCutsToMany() {
        for (int many = 0; many <= 16; many++) {
            KeyFrames x = new KeyFrames();
            CHECK.same("feed " + many, x.feed(many, 0x80818283, 0x84858687, 0x88898A8B, 0x8C8D8E8F), many);
            CHECK.same("last of " + many, x.octet(many - 1), many == 0 ? -1 : 127 + many);
            CHECK.same("behind " + many, x.octet(many), -1);
            CHECK.same("one more behind " + many, x.feed(1, 7 << 24, 0, 0, 0), many + 1);
            CHECK.same("it", x.octet(many), 7);
        }
    }

    private static void refusedFeedChangesNothing() {
        KeyFrames writing = new KeyFrames();
        writing.write();
        CHECK.refusesArgument("feed while writing", () -> writing.feed(17, 0, 0, 0, 0));
        CHECK.same("put goes on", writing.put(128, 0, 8), 0);
        CHECK.same("end goes on", writing.end(), 4);

        KeyFrames reading = new KeyFrames();
        for (int i = 0; i < 37; i++) {
            reading.feed(16, 0x55555555, 0, 0, 0);
        }
        reading.read();
        CHECK.refusesState("feed while reading", () -> reading.feed(16, 0, 0, 0, 0));
        CHECK.same("get goes on", reading.get(128, 8), 0x55);
        CHECK.same("none came", reading.octet(592), -1);
    }

    private static void eraseForgetsBytes() {
        KeyFrames x = new KeyFrames();
        x.feed(5, -1, -1, 0, 0);
        CHECK.same("erase 5", x.erase(), 5);
        CHECK.same("octet behind erase", x.octet(0), -1);
        CHECK.same("erase again", x.erase(), 0);
        x.read();
        x.erase();
        CHECK.refusesState("get behind erase", () -> x.get(128, 1));
        x.write();
        x.put(1, 0, 32);
        CHECK.same("erase 26", x.erase(), 26);
        CHECK.refusesState("put behind erase", () -> x.put(128, 0, 1));
        CHECK.refusesState("end behind erase", () -> x.end());
        x.decode();
        x.erase();
        CHECK.same("the picture stays", x.sample(3, 3), 128);
        CHECK.same("its counts stay", x.count(5), 5);
        CHECK.same("feed behind erase", x.feed(1, 9 << 24, 0, 0, 0), 1);
        CHECK.same("the new byte", x.octet(0), 9);
    }
}
