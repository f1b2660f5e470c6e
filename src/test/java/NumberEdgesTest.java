import java.io.IOException;

/** The boundary cases that "1. Numbers" names: CUT, WITHOUT A SIGN, TURNED and compared. */
public final class NumberEdgesTest {
    private static final Check CHECK = new Check("NumberEdgesTest");
    /** A number, and what it is when it is CUT to a BYTE. */
    private static final int[][] CUT_BYTES = {{126, 126}, {127, 127}, {128, -128}, {129, -127}, {-127, -127},
        {-128, -128}, {-129, 127}, {-130, 126}, {255, -1}, {256, 0}, {257, 1}, {-255, 1}, {-256, 0}, {-257, -1},
        {383, 127}, {384, -128}, {-384, -128}, {-385, 127}, {32767, -1}, {32768, 0}, {-32768, 0}, {-32769, -1},
        {Integer.MAX_VALUE, -1}, {Integer.MAX_VALUE - 127, -128}, {Integer.MAX_VALUE - 128, 127},
        {Integer.MIN_VALUE, 0}, {Integer.MIN_VALUE + 127, 127}, {Integer.MIN_VALUE + 128, -128}, {-1, -1}, {0, 0}};
    /** A number, and what it is when it is CUT to a SHORT. */
    private static final int[][] CUT_SHORTS = {{32766, 32766}, {32767, 32767}, {32768, -32768}, {32769, -32767},
        {-32767, -32767}, {-32768, -32768}, {-32769, 32767}, {-32770, 32766}, {65535, -1}, {65536, 0}, {65537, 1},
        {-65535, 1}, {-65536, 0}, {-65537, -1}, {98303, 32767}, {98304, -32768}, {-98304, -32768}, {-98305, 32767},
        {Integer.MAX_VALUE, -1}, {Integer.MAX_VALUE - 32767, -32768}, {Integer.MAX_VALUE - 32768, 32767},
        {Integer.MIN_VALUE, 0}, {Integer.MIN_VALUE + 32767, 32767}, {Integer.MIN_VALUE + 32768, -32768},
        {-1, -1}, {0, 0}};
    /** A BYTE, and what it is WITHOUT A SIGN. */
    private static final int[][] BYTES = {{0, 0}, {1, 1}, {127, 127}, {-128, 128}, {-127, 129}, {-2, 254}, {-1, 255}};
    /** A SHORT, and what it is WITHOUT A SIGN. */
    private static final int[][] SHORTS = {{0, 0}, {1, 1}, {127, 127}, {128, 128}, {255, 255}, {256, 256},
        {32767, 32767}, {-32768, 32768}, {-32767, 32769}, {-129, 65407}, {-128, 65408}, {-2, 65534}, {-1, 65535}};
    /** A SHORT, and what it is when it is TURNED. */
    private static final int[][] TURNED = {{0, 0}, {1, 256}, {256, 1}, {127, 32512}, {32512, 127}, {128, -32768},
        {-32768, 128}, {255, -256}, {-256, 255}, {129, -32512}, {-32512, 129}, {32767, -129}, {-129, 32767},
        {-1, -1}, {-2, -257}, {-257, -2}, {257, 257}, {4660, 13330}, {-128, -32513}};

    public static void main(String[] args) throws IOException {
        Sentences document = new Sentences(CHECK);
        String here = "1. Numbers";
        String cut = "the one of its numbers that differs from it by a multiple of 256 (65536).";
        document.hold(here, "To CUT a number to a BYTE (or a SHORT): " + cut, NumberEdgesTest::cut);
        document.hold(here, "WITHOUT A SIGN a BYTE below 0 counts as itself and 256",
                NumberEdgesTest::bytesWithoutSign);
        document.hold(here, "a SHORT below 0 as itself and 65536", NumberEdgesTest::shortsWithoutSign);
        document.hold(here, "others as themselves.", NumberEdgesTest::othersWithoutSign);
        document.hold(here, "of the SHORT WITHOUT A SIGN the lower 8 binary digits and the upper 8 change places;",
                NumberEdgesTest::turned);
        document.hold(here, "what comes of that is CUT.", NumberEdgesTest::turnedBelowZero);
        document.hold(here, "To compare: -1, 0 or 1, as the first one is less than, like, or greater than the second one.",
                NumberEdgesTest::compared);

        document.hold(6, "A BYTE becomes a number that is CUT.", () -> set(Kind.BYTES, CUT_BYTES));
        document.hold(16, "A SHORT becomes a number that is CUT.", () -> set(Kind.SHORTS, CUT_SHORTS));
        document.hold(11, "A BYTE becomes the sum of two, CUT.", NumberEdgesTest::addBytes);
        document.hold(21, "A SHORT becomes the sum of two, CUT.", NumberEdgesTest::addShorts);
        document.hold(12, "0 it, 1 it as a SHORT, 2 WITHOUT A SIGN, 3 its code (it), 4 1 if it is below 0, otherwise 0",
                NumberEdgesTest::ofByte);
        document.hold(22, "0 it, 1 it CUT to a BYTE, 2 WITHOUT A SIGN, 3 its code (it), 4 it, TURNED",
                NumberEdgesTest::ofShort);
        document.hold(13, "Returns what it is WITHOUT A SIGN, as decimal digits.", () -> unsigned(Kind.BYTES, BYTES));
        document.hold(23, "Returns what it is WITHOUT A SIGN, as decimal digits.", () -> unsigned(Kind.SHORTS, SHORTS));
        document.hold(14, "whether WITHOUT A SIGN", () -> compares(Kind.BYTES, BYTES));
        document.hold(24, "whether WITHOUT A SIGN", () -> compares(Kind.SHORTS, SHORTS));
        document.hold(15, "Returns whether they are the SAME number.", () -> same(Kind.BYTES, BYTES));
        document.hold(25, "Returns whether they are the SAME number.", () -> same(Kind.SHORTS, SHORTS));
        document.hold(26, "A BYTE becomes a SHORT, CUT.", NumberEdgesTest::byteOfShort);
        document.hold(27, "A SHORT becomes a BYTE.", NumberEdgesTest::shortOfByte);
        document.hold(28, "TURNS a SHORT.", NumberEdgesTest::turn);
        document.end(6, 11, 12, 13, 14, 15, 16, 21, 22, 23, 24, 25, 26, 27, 28);
    }

    private static void cut() {
        for (int[] row : CUT_BYTES) {
            Shortnumbers x = new Shortnumbers();
            CHECK.due("setByte(0, " + row[0] + ")", x.setByte(0, row[0]), row[1]);
            int apart = row[0] - row[1];
            CHECK.due("the difference of " + row[0], apart % 256, 0);
        }
        for (int[] row : CUT_SHORTS) {
            Shortnumbers x = new Shortnumbers();
            CHECK.due("setShort(0, " + row[0] + ")", x.setShort(0, row[0]), row[1]);
            int apart = row[0] - row[1];
            CHECK.due("the difference of " + row[0], apart % 65536, 0);
        }
    }

    private static void bytesWithoutSign() {
        for (int number = -128; number < 0; number++) {
            Shortnumbers x = new Shortnumbers();
            x.setByte(2, number);
            CHECK.due("ofByte(2, 2) of " + number, x.ofByte(2, 2), number + 256);
            CHECK.due("unsignedByte of " + number, x.unsignedByte(2), Integer.toString(number + 256));
            CHECK.due("shortOfByte of " + number, x.shortOfByte(0, 2, true), number + 256);
        }
    }

    private static void shortsWithoutSign() {
        for (int number : new int[] {-32768, -32767, -257, -256, -255, -129, -128, -127, -2, -1}) {
            Shortnumbers x = new Shortnumbers();
            x.setShort(2, number);
            CHECK.due("ofShort(2, 2) of " + number, x.ofShort(2, 2), number + 65536);
            CHECK.due("unsignedShort of " + number, x.unsignedShort(2), Integer.toString(number + 65536));
        }
    }

    private static void othersWithoutSign() {
        for (int number : new int[] {0, 1, 126, 127}) {
            Shortnumbers x = new Shortnumbers();
            x.setByte(3, number);
            CHECK.due("ofByte(3, 2) of " + number, x.ofByte(3, 2), number);
            CHECK.due("unsignedByte of " + number, x.unsignedByte(3), Integer.toString(number));
            CHECK.due("shortOfByte of " + number, x.shortOfByte(0, 3, true), number);
        }
        for (int number : new int[] {0, 1, 127, 128, 255, 256, 32766, 32767}) {
            Shortnumbers x = new Shortnumbers();
            x.setShort(3, number);
            CHECK.due("ofShort(3, 2) of " + number, x.ofShort(3, 2), number);
            CHECK.due("unsignedShort of " + number, x.unsignedShort(3), Integer.toString(number));
        }
    }

    private static void turned() {
        for (int[] row : TURNED) {
            Shortnumbers x = new Shortnumbers();
            x.setShort(1, row[0]);
            CHECK.due("ofShort(1, 4) of " + row[0], x.ofShort(1, 4), row[1]);
            CHECK.due("turn of " + row[0], x.turn(1), row[1]);
            CHECK.due("turn twice of " + row[0], x.turn(1), row[0]);
        }
    }

    /** The lower 8 digits become the upper ones: from 128 on they tell a number below 0. */
    private static void turnedBelowZero() {
        for (int lower = 0; lower <= 255; lower++) {
            Shortnumbers x = new Shortnumbers();
            x.setShort(1, lower);
            int want = lower < 128 ? lower * 256 : lower * 256 - 65536;
            CHECK.due("ofShort(1, 4) of " + lower, x.ofShort(1, 4), want);
            CHECK.due("turn of " + lower, x.turn(1), want);
            CHECK.due("ofShort(1, 0) of " + lower + " turned", x.ofShort(1, 0), want);
        }
    }

    private static void compared() {
        int[][] pairs = {{-128, 127, -1}, {127, -128, 1}, {-128, -127, -1}, {-1, 0, -1}, {0, -1, 1}, {0, 0, 0},
            {-128, -128, 0}, {127, 127, 0}, {126, 127, -1}, {-5, 100, -1}};
        for (int[] pair : pairs) {
            Shortnumbers x = new Shortnumbers();
            x.setByte(0, pair[0]);
            x.setByte(3, pair[1]);
            x.setShort(0, pair[0]);
            x.setShort(3, pair[1]);
            CHECK.due("compareBytes of " + pair[0] + ", " + pair[1], x.compareBytes(0, 3, false), pair[2]);
            CHECK.due("compareBytes of " + pair[1] + ", " + pair[0], x.compareBytes(3, 0, false), -pair[2]);
            CHECK.due("compareShorts of " + pair[0] + ", " + pair[1], x.compareShorts(0, 3, false), pair[2]);
            CHECK.due("compareShorts of " + pair[1] + ", " + pair[0], x.compareShorts(3, 0, false), -pair[2]);
        }
        Shortnumbers x = new Shortnumbers();
        x.setShort(1, -32768);
        x.setShort(2, 32767);
        CHECK.due("compareShorts of the least and the greatest", x.compareShorts(1, 2, false), -1);
        CHECK.due("compareShorts of the greatest and the least", x.compareShorts(2, 1, false), 1);
        x.setSign(1, 0);
        x.setSign(2, 127);
        CHECK.due("compareSigns of the least and the greatest", x.compareSigns(1, 2), -1);
        CHECK.due("compareSigns of the greatest and the least", x.compareSigns(2, 1), 1);
        CHECK.due("compareSigns of one", x.compareSigns(2, 2), 0);
    }

    private static void set(Kind kind, int[][] rows) {
        for (int[] row : rows) {
            for (int k = 0; k < 4; k++) {
                Shortnumbers x = Check.filled();
                CHECK.due("set of " + row[0], kind.set(x, k, row[0]), row[1]);
                CHECK.due("it is then", kind.of(x, k, 0), row[1]);
                for (int other = 0; other < 4; other++) {
                    if (other != k) {
                        CHECK.due("another one", kind.of(x, other, 0), kind.of(Check.filled(), other, 0));
                    }
                }
            }
        }
    }

    private static void addBytes() {
        int[][] sums = {{127, 1, -128}, {127, 127, -2}, {-128, -1, 127}, {-128, -128, 0}, {-128, 127, -1},
            {126, 1, 127}, {-127, -1, -128}, {-128, 0, -128}, {0, 127, 127}, {64, 64, -128}, {-64, -64, -128},
            {-64, -65, 127}, {-1, 1, 0}, {0, 0, 0}, {-1, -1, -2}};
        sums(Kind.BYTES, sums);
    }

    private static void addShorts() {
        int[][] sums = {{32767, 1, -32768}, {32767, 32767, -2}, {-32768, -1, 32767}, {-32768, -32768, 0},
            {-32768, 32767, -1}, {32766, 1, 32767}, {-32767, -1, -32768}, {-32768, 0, -32768}, {0, 32767, 32767},
            {16384, 16384, -32768}, {-16384, -16384, -32768}, {-16384, -16385, 32767}, {127, 1, 128},
            {-128, -1, -129}, {255, 1, 256}, {-1, 1, 0}, {0, 0, 0}};
        sums(Kind.SHORTS, sums);
    }

    private static void sums(Kind kind, int[][] sums) {
        for (int[] sum : sums) {
            for (int k = 0; k < 4; k++) {
                Shortnumbers x = Check.filled();
                kind.set(x, 1, sum[0]);
                kind.set(x, 2, sum[1]);
                Shortnumbers like = Check.filled();
                kind.set(like, 1, sum[0]);
                kind.set(like, 2, sum[1]);
                kind.set(like, k, sum[2]);
                String call = "the sum of " + sum[0] + ", " + sum[1] + " in " + k;
                CHECK.leaves(call, kind.add(x, k, 1, 2), sum[2], x, like);
            }
            Shortnumbers x = new Shortnumbers();
            kind.set(x, 3, sum[0]);
            kind.set(x, 0, sum[1]);
            CHECK.due("the sum of " + sum[1] + ", " + sum[0], kind.add(x, 3, 0, 3), sum[2]);
        }
        Shortnumbers x = new Shortnumbers();
        kind.set(x, 2, kind.span() / 2 - 1);
        CHECK.due("the greatest and itself", kind.add(x, 2, 2, 2), -2);
        kind.set(x, 2, -kind.span() / 2);
        CHECK.due("the least and itself", kind.add(x, 2, 2, 2), 0);
    }

    private static void ofByte() {
        int[][] rows = {{0, 0, 0, 0, 0}, {1, 1, 1, 1, 0}, {127, 127, 127, 127, 0}, {-128, -128, 128, -128, 1},
            {-127, -127, 129, -127, 1}, {-1, -1, 255, -1, 1}};
        asked(Kind.BYTES, rows);
    }

    private static void ofShort() {
        int[][] rows = {{0, 0, 0, 0, 0}, {127, 127, 127, 127, 32512}, {128, -128, 128, 128, -32768},
            {255, -1, 255, 255, -256}, {256, 0, 256, 256, 1}, {-128, -128, 65408, -128, -32513},
            {-129, 127, 65407, -129, 32767}, {32767, -1, 32767, 32767, -129}, {-32768, 0, 32768, -32768, 128},
            {-1, -1, 65535, -1, -1}, {-256, 0, 65280, -256, 255}};
        asked(Kind.SHORTS, rows);
    }

    private static void asked(Kind kind, int[][] rows) {
        for (int[] row : rows) {
            for (int k = 0; k < 4; k++) {
                Shortnumbers x = new Shortnumbers();
                kind.set(x, k, row[0]);
                for (int what = 0; what <= 4; what++) {
                    CHECK.due("no. " + what + " of " + row[0], kind.of(x, k, what), row[what]);
                }
            }
        }
    }

    private static void unsigned(Kind kind, int[][] rows) {
        for (int[] row : rows) {
            Shortnumbers x = new Shortnumbers();
            kind.set(x, 3, row[0]);
            CHECK.due("unsigned " + row[0], kind.unsigned(x, 3), Integer.toString(row[1]));
        }
    }

    private static void compares(Kind kind, int[][] rows) {
        for (int[] first : rows) {
            for (int[] second : rows) {
                Shortnumbers x = new Shortnumbers();
                kind.set(x, 0, first[0]);
                kind.set(x, 1, second[0]);
                String both = first[0] + ", " + second[0];
                CHECK.due("with a sign " + both, kind.compare(x, 0, 1, false), Integer.compare(first[0], second[0]));
                CHECK.due("without one " + both, kind.compare(x, 0, 1, true), Integer.compare(first[1], second[1]));
            }
        }
    }

    private static void same(Kind kind, int[][] rows) {
        for (int[] first : rows) {
            for (int[] second : rows) {
                Shortnumbers x = new Shortnumbers();
                kind.set(x, 0, first[0]);
                kind.set(x, 3, second[0]);
                CHECK.due("same " + first[0] + ", " + second[0], kind.same(x, 0, 3), first[0] == second[0]);
                CHECK.due("same " + first[0] + " and itself", kind.same(x, 0, 0), true);
            }
        }
        Shortnumbers x = new Shortnumbers();
        kind.set(x, 1, -1);
        kind.set(x, 2, kind.span() - 1);
        CHECK.due("the same once it is CUT", kind.same(x, 1, 2), true);
    }

    private static void byteOfShort() {
        for (int[] row : CUT_BYTES) {
            if (row[0] >= -32768 && row[0] <= 32767) {
                for (int k = 0; k < 4; k++) {
                    Shortnumbers x = Check.filled();
                    x.setShort(3 - k, row[0]);
                    Shortnumbers like = Check.filled();
                    like.setShort(3 - k, row[0]);
                    like.setByte(k, row[1]);
                    CHECK.leaves("byteOfShort of " + row[0], x.byteOfShort(k, 3 - k), row[1], x, like);
                }
            }
        }
    }

    private static void shortOfByte() {
        for (int[] row : BYTES) {
            for (int isUnsigned = 0; isUnsigned <= 1; isUnsigned++) {
                for (int k = 0; k < 4; k++) {
                    Shortnumbers x = Check.filled();
                    x.setByte(3 - k, row[0]);
                    Shortnumbers like = Check.filled();
                    like.setByte(3 - k, row[0]);
                    like.setShort(k, row[isUnsigned]);
                    CHECK.leaves("shortOfByte of " + row[0], x.shortOfByte(k, 3 - k, isUnsigned == 1), row[isUnsigned],
                            x, like);
                }
            }
        }
    }

    private static void turn() {
        for (int[] row : TURNED) {
            for (int k = 0; k < 4; k++) {
                Shortnumbers x = Check.filled();
                x.setShort(k, row[0]);
                Shortnumbers like = Check.filled();
                like.setShort(k, row[1]);
                CHECK.leaves("turn of " + row[0], x.turn(k), row[1], x, like);
            }
        }
    }
}
