import java.util.Arrays;

/** Terms, "FILTER", and what count tells of it: each step at its edges, by numbers worked out by hand. */
public final class FilterEdgesTest {
    private static final Check CHECK = new Check("FilterEdgesTest");
    private static final PictureCheck PICTURE = new PictureCheck(CHECK);
    private static final int[] NOTHING = {0, 0};

    public static void main(String[] args) {
        levelAbove0();
        onlyInnerEdges();
        atMostTwiceTheLevel();
        halfIsCut();
        eachSampleIsKeptInside();
        differenceOfTheOuterIsCut();
        whatIsDividedIsCut();
        dividedDownwards();
        behindAll();
        blockByBlock();
        foursThatChanged();
        mostFours();
        CHECK.close();
    }

    /**
     * Two blocks beside each other and one below the other, alike along their edge. The first is guessed 128,
     * the second as the first one's side; then each has differences, by Q = 0, of (4 (a + b) + 4) / 8 next to
     * its edges and (4 (a - b) + 4) / 8 in its middle, downwards.
     */
    private static void four(String what, int level, int[] first, int[] second, int[] before, int[] after) {
        int changed = Arrays.equals(before, after) ? 0 : 4;
        for (int at : new int[] {0, level}) {
            PlainPicture across = new PlainPicture(2, 1, 0, at)
                    .with(0, PlainPicture.EVEN, alongARow(first)).with(1, PlainPicture.ACROSS, alongARow(second));
            PlainPicture down = new PlainPicture(1, 2, 0, at)
                    .with(0, PlainPicture.EVEN, downAColumn(first)).with(1, PlainPicture.DOWN, downAColumn(second));
            KeyFrames left = Feeder.decoded(across);
            KeyFrames upper = Feeder.decoded(down);
            for (int i = 0; i < 4; i++) {
                CHECK.row(what + " at LEVEL " + at, left, 2, i, at == 0 ? before : after);
                CHECK.column(what + " at LEVEL " + at, upper, i, 2, at == 0 ? before : after);
            }
            CHECK.same(what + ", fours across", left.count(6), at == 0 ? 0 : changed);
            CHECK.same(what + ", fours down", upper.count(6), at == 0 ? 0 : changed);
        }
    }

    private static int[] alongARow(int[] c) {
        return c[1] != 0 ? new int[] {c[0], 0, 0, 0, 0, c[1]} : c[0] != 0 ? new int[] {c[0]} : new int[0];
    }

    private static int[] downAColumn(int[] c) {
        return c[1] != 0 ? new int[] {c[0], 0, 0, c[1]} : c[0] != 0 ? new int[] {c[0]} : new int[0];
    }

    private static int[] of(int... numbers) {
        return numbers;
    }

    /** The second block just so much above or below the first, all alike. */
    private static int[] step(int difference) {
        return of(2 * difference - 1, 0);
    }

    private static void levelAbove0() {
        CHECK.sentence("FILTER, if LEVEL is above 0");
        // Half of 8 is 4: that is at most 2 LEVEL + 4 even at 0, where the FILTER must not be.
        four("136 beside", 1, NOTHING, of(8, -8), of(128, 128, 128, 136), of(128, 127, 129, 136));
        four("136 beside", 63, NOTHING, of(8, -8), of(128, 128, 128, 136), of(128, 127, 129, 136));
    }

    private static void onlyInnerEdges() {
        CHECK.sentence("its left edge (from COLUMN 1 on), its upper one (from ROW 1 on)");
        int[] wild = {5, -6, 7, 3, -4, 2, 1, -3, 2};
        KeyFrames plain = Feeder.decoded(new PlainPicture(1, 1, 9, 0).with(0, PlainPicture.SLOPE, wild));
        KeyFrames filtered = Feeder.decoded(new PlainPicture(1, 1, 9, 63).with(0, PlainPicture.SLOPE, wild));
        for (int i = 0; i < 16; i++) {
            CHECK.same("one block", filtered.sample(i % 4, i / 4), plain.sample(i % 4, i / 4));
        }
        CHECK.same("no edge", filtered.count(6), 0);
        // Steps of 8 between any two neighbours: each four of an inner edge changes, and no other.
        for (int many = 1; many <= 4; many++) {
            PlainPicture row = new PlainPicture(many, 1, 0, 63);
            PlainPicture column = new PlainPicture(1, many, 0, 63);
            for (int k = 1; k < many; k++) {
                row.with(k, PlainPicture.ACROSS, 15);
                column.with(k, PlainPicture.DOWN, 15);
            }
            KeyFrames across = Feeder.decoded(row);
            KeyFrames down = Feeder.decoded(column);
            CHECK.same(many + " across", across.count(6), 4 * (many - 1));
            CHECK.same(many + " down", down.count(6), 4 * (many - 1));
            CHECK.same("the left of all", across.sample(0, 3), 128);
            CHECK.same("the right of all", across.sample(4 * many - 1, 0), 128 + 8 * (many - 1));
            CHECK.same("the upper of all", down.sample(3, 0), 128);
            CHECK.same("the lowest of all", down.sample(0, 4 * many - 1), 128 + 8 * (many - 1));
            CHECK.same("the next to the left", across.sample(1, 0), 128);
        }
        // At an inner edge just p0 and q0 are made new.
        KeyFrames x = Feeder.decoded(new PlainPicture(2, 1, 0, 63).with(1, PlainPicture.ACROSS, 15));
        CHECK.row("a step", x, 0, 2, 128, 128, 128, 130, 134, 136, 136, 136);
    }

    private static void atMostTwiceTheLevel() {
        CHECK.sentence("are together at most 2 LEVEL + 4");
        // Steps of 2, 3, 4, 5, 52, 53 are, twice and half, together 5, 7, 10, 12, 130, 132.
        four("5 of 6", 1, NOTHING, step(2), of(128, 128, 130, 130), of(128, 128, 129, 130));
        four("7 of 6", 1, NOTHING, step(3), of(128, 128, 131, 131), of(128, 128, 131, 131));
        four("7 of 6", 1, NOTHING, step(-3), of(128, 128, 125, 125), of(128, 128, 125, 125));
        four("7 of 8", 2, NOTHING, step(3), of(128, 128, 131, 131), of(128, 129, 130, 131));
        four("10 of 8", 2, NOTHING, step(4), of(128, 128, 132, 132), of(128, 128, 132, 132));
        four("10 of 10", 3, NOTHING, step(4), of(128, 128, 132, 132), of(128, 129, 131, 132));
        four("10 of 10", 3, NOTHING, step(-4), of(128, 128, 124, 124), of(128, 127, 125, 124));
        four("130 of 130", 63, NOTHING, step(52), of(128, 128, 180, 180), of(128, 141, 167, 180));
        four("132 of 130", 63, NOTHING, step(53), of(128, 128, 181, 181), of(128, 128, 181, 181));
        four("130 of 130", 63, NOTHING, step(-52), of(128, 128, 76, 76), of(128, 115, 89, 76));
        four("132 of 130", 63, NOTHING, step(-53), of(128, 128, 75, 75), of(128, 128, 75, 75));
        four("130 of 128", 62, NOTHING, step(52), of(128, 128, 180, 180), of(128, 128, 180, 180));
    }

    private static void halfIsCut() {
        CHECK.sentence("half (cut) that of p1 and q1");
        four("10 and half of 5", 4, NOTHING, step(5), of(128, 128, 133, 133), of(128, 129, 132, 133));
        four("10 and half of 5", 3, NOTHING, step(5), of(128, 128, 133, 133), of(128, 128, 133, 133));
        // p0 and q0 alike: 13 and 14 between p1 and q1 are 6 and 7.
        four("half of 13", 1, NOTHING, of(13, -13), of(128, 128, 128, 141), of(128, 126, 130, 141));
        four("half of 14", 1, NOTHING, of(14, -14), of(128, 128, 128, 142), of(128, 128, 128, 142));
        four("half of -13", 1, NOTHING, of(-13, 13), of(128, 128, 128, 115), of(128, 130, 126, 115));
        four("half of -14", 1, NOTHING, of(-14, 14), of(128, 128, 128, 114), of(128, 128, 128, 114));
        four("half of 255", 61, of(300, 0), of(-400, 400), of(255, 255, 255, 0), of(255, 255, 255, 0));
    }

    /** p0 or q0 at 0 or 255 already, and p1 and q1 as far apart as can be. */
    private static void eachSampleIsKeptInside() {
        CHECK.sentence("l of them, and 128 more: -128 or 127 if it is beyond");
        for (int level : new int[] {62, 63}) {
            four("q0 beyond 255", level, of(-400, 800), of(800, 0), of(0, 255, 255, 255), of(0, 239, 255, 255));
            four("q0 below 0", level, of(400, -800), of(-800, 0), of(255, 0, 0, 0), of(255, 15, 0, 0));
            four("p0 beyond 255", level, of(800, 0), of(-400, 400), of(255, 255, 255, 0), of(255, 255, 240, 0));
            four("p0 below 0", level, of(-800, 0), of(400, -400), of(0, 0, 0, 255), of(0, 0, 16, 255));
        }
    }

    private static void differenceOfTheOuterIsCut() {
        CHECK.sentence("l(p1 - q1): -128 or 127 if it is beyond");
        // 200 between p1 and q1 is 127, with 3 times -10 it is 97: 101 / 8 and 100 / 8 are 12.
        four("200", 63, step(72), of(-250, 230), of(200, 200, 190, 0), of(200, 212, 178, 0));
        // -200 is -128, with 3 times 10 it is -98: -94 / 8 and -95 / 8 are -12.
        four("-200", 63, step(-73), of(250, -230), of(55, 55, 65, 255), of(55, 43, 77, 255));
    }

    private static void whatIsDividedIsCut() {
        CHECK.sentence("l(a + 4) / 8, l(a + 3) / 8: 127 if it is beyond");
        // 3 times 40, and 3, 4 or 5 between p1 and q1: with 4 and 3 more that is at most 127, or beyond it.
        four("a at 123", 63, NOTHING, of(36, 43), of(128, 128, 168, 125), of(128, 143, 153, 125));
        four("a at 124", 63, NOTHING, of(35, 44), of(128, 128, 168, 124), of(128, 143, 153, 124));
        four("a at 125", 63, NOTHING, of(34, 45), of(128, 128, 168, 123), of(128, 143, 153, 123));
        four("a at 127", 63, of(800, 0), of(-400, 400), of(255, 255, 255, 0), of(255, 255, 240, 0));
        four("a at 127", 63, of(400, -800), of(-800, 0), of(255, 0, 0, 0), of(255, 15, 0, 0));
    }

    private static void dividedDownwards() {
        CHECK.sentence("q0 is less by l(a + 4) / 8, p0 more by l(a + 3) / 8, downwards");
        // a is twice a step, or the difference of p1 and q1 where p0 and q0 are alike.
        four("a at -4", 1, NOTHING, step(-2), of(128, 128, 126, 126), of(128, 127, 126, 126));
        four("a at -5", 1, NOTHING, of(5, -5), of(128, 128, 128, 133), of(128, 127, 129, 133));
        four("a at -3", 1, NOTHING, of(3, -3), of(128, 128, 128, 131), of(128, 128, 128, 131));
        four("a at 4", 1, NOTHING, of(-4, 4), of(128, 128, 128, 124), of(128, 128, 127, 124));
        four("a at 5", 1, NOTHING, of(-5, 5), of(128, 128, 128, 123), of(128, 129, 127, 123));
        four("a at 3", 1, NOTHING, of(-3, 3), of(128, 128, 128, 125), of(128, 128, 128, 125));
        four("a at -13", 63, NOTHING, of(13, -13), of(128, 128, 128, 141), of(128, 126, 130, 141));
        four("a at -12", 63, NOTHING, of(12, -12), of(128, 128, 128, 140), of(128, 126, 129, 140));
    }

    /** The lower blocks are guessed from what is above before it is filtered: all rows come out alike. */
    private static void behindAll() {
        CHECK.sentence("FILTER, behind all");
        KeyFrames x = Feeder.decoded(new PlainPicture(2, 2, 0, 4)
                .with(0, PlainPicture.EVEN, 8).with(1, PlainPicture.DOWN)
                .with(2, PlainPicture.DOWN).with(3, PlainPicture.DOWN));
        for (int y = 0; y < 8; y++) {
            CHECK.row("row " + y, x, 0, y, 132, 132, 132, 131, 128, 127, 127, 127);
        }
        CHECK.same("fours", x.count(6), 8);
    }

    private static void blockByBlock() {
        CHECK.sentence("BLOCK by BLOCK, row by row: its left edge, then its upper one");
        // Where edges cross, a sample is made new by one edge and seen, or made new again, by the other.
        for (int sign = -1; sign <= 1; sign += 2) {
            for (int level : new int[] {3, 9, 20, 63}) {
                PICTURE.all("crossing at " + level, new PlainPicture(3, 3, 4, level)
                        .with(0, PlainPicture.EVEN, sign * 9, 2).with(1, PlainPicture.ACROSS, sign * -7, 0, 3)
                        .with(2, PlainPicture.DOWN, sign * 11).with(3, PlainPicture.DOWN, -6, sign * 3)
                        .with(4, PlainPicture.SLOPE, 13, sign * -2, 4).with(5, PlainPicture.EVEN, -12)
                        .with(6, PlainPicture.ACROSS, sign * 5, 0, -4).with(7, PlainPicture.SLOPE, -9, 5)
                        .with(8, PlainPicture.EVEN, sign * 16, -3, 3));
            }
        }
    }

    private static void foursThatChanged() {
        CHECK.sentence("for how many fours of SAMPLES the FILTER made q0 or p0 another one than before");
        four("q0 alone", 1, NOTHING, step(2), of(128, 128, 130, 130), of(128, 128, 129, 130));
        four("p0 alone", 1, NOTHING, step(-2), of(128, 128, 126, 126), of(128, 127, 126, 126));
        four("neither", 63, NOTHING, step(1), of(128, 128, 129, 129), of(128, 128, 129, 129));
        four("neither", 63, NOTHING, step(-1), of(128, 128, 127, 127), of(128, 128, 127, 127));
        four("alike", 63, NOTHING, NOTHING, of(128, 128, 128, 128), of(128, 128, 128, 128));
        // Cut back to what it was: p0 alone, q0 alone.
        four("q0 stays 255", 63, of(-400, 800), of(800, 0), of(0, 255, 255, 255), of(0, 239, 255, 255));
        four("p0 stays 255", 63, of(800, 0), of(-400, 400), of(255, 255, 255, 0), of(255, 255, 240, 0));
    }

    /** 140 and 116 in turns, like a board of chess: all 24 inner edges have four that change. */
    private static void mostFours() {
        CHECK.sentence("count 6, the most");
        PlainPicture board = new PlainPicture(4, 4, 0, 63);
        for (int k = 0; k < 16; k++) {
            boolean high = (k % 4 + k / 4) % 2 == 0;
            int change = k % 4 == 0 ? (high ? 11 : -13) : high ? 24 : -24;
            board.with(k, PlainPicture.ACROSS, 2 * change - 1);
        }
        CHECK.same("all of them", Feeder.decoded(board).count(6), 96);
        PICTURE.all("board", board);
    }
}
