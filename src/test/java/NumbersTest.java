/** Promises 6 to 28: bytes and shorts, which promise alike and differ by their span. */
public final class NumbersTest {
    private static final Check CHECK = new Check("NumbersTest");
    private static final int REFUSED = -99999;
    private static final int[] VALUES = {0, 1, -1, 9, 10, 35, 36, 126, 127, 128, 129, -127, -128, -129,
        255, 256, 257, -255, -256, -257, 511, 4660, -4660, 32766, 32767, 32768, 32769, -32767, -32768,
        -32769, 65535, 65536, 65537, -65535, -65536, -65537, 8388608, Integer.MAX_VALUE,
        Integer.MAX_VALUE - 128, Integer.MIN_VALUE, Integer.MIN_VALUE + 1};

    public static void main(String[] args) {
        for (Kind kind : Kind.values()) {
            set(kind);
            parse(kind);
            parseBy(kind);
            decode(kind);
            write(kind);
            add(kind);
            unsigned(kind);
            compareAndSame(kind);
            refuses(kind);
        }
        ofByte();
        ofShort();
        byteOfShort();
        shortOfByte();
        turn();
        CHECK.end();
    }

    private static int cut(Kind kind, int value) {
        return kind == Kind.BYTES ? (byte) value : (short) value;
    }

    private static int withoutSign(Kind kind, int number) {
        return Math.floorMod(number, kind.span());
    }

    /** The name of a call of a kind. */
    private static String call(Kind kind, String rest) {
        return (kind == Kind.BYTES ? "byte: " : "short: ") + rest;
    }

    private static void set(Kind kind) {
        for (int value : VALUES) {
            Shortnumbers x = new Shortnumbers();
            CHECK.due(call(kind, "set " + value), kind.set(x, 1, value), cut(kind, value));
            CHECK.due(call(kind, "is then"), kind.of(x, 1, 0), cut(kind, value));
            CHECK.due(call(kind, "the others"), kind.of(x, 0, 0) + kind.of(x, 2, 0) + kind.of(x, 3, 0), 0);
        }
        for (int value = -70000; value < 70000; value++) {
            Shortnumbers x = new Shortnumbers();
            CHECK.due(call(kind, "set " + value), kind.set(x, 3, value), cut(kind, value));
        }
    }

    /** Reads a text by 10, by a base and as told; want tells what is due, or REFUSED. */
    private static void read(Kind kind, String signs, int base, boolean isTold, int want) {
        for (int text = 0; text < 4; text++) {
            if (isTold) {
                read(kind, "decode " + signs, signs, text, want, (x, k) -> kind.decode(x, 1, k));
            } else {
                read(kind, "parse " + signs + " by " + base, signs, text, want,
                        (x, k) -> kind.parseBy(x, 1, k, base));
            }
            if (base == 10 && !isTold) {
                read(kind, "parse " + signs, signs, text, want, (x, k) -> kind.parse(x, 1, k));
            }
        }
    }

    private static void read(Kind kind, String call, String signs, int text, int want, Check.Call reading) {
        Shortnumbers x = new Shortnumbers();
        for (int k = 0; k < 4; k++) {
            kind.set(x, k, 77);
            Check.type(x, k, k == text ? signs : "1");
        }
        CHECK.due(call(kind, call), reading.on(x, text), want);
        CHECK.due(call(kind, call + ": is then"), kind.of(x, 1, 0), want == REFUSED ? 77 : want);
        CHECK.due(call(kind, call + ": the others"), kind.of(x, 0, 0) + kind.of(x, 2, 0) + kind.of(x, 3, 0), 231);
        CHECK.due(call(kind, call + ": the text then"), x.text(text), signs);
    }

    private static void parse(Kind kind) {
        String[] none = {"", "+", "-", "+-1", "--1", "1-", "1+", " 1", "1 ", "0x1", "#1", "a", "1a", "1.0",
            "\0", "/", ":", "12345678901234567890", "-9999999999999999999", "4294967297",
            "-4294967297", "18446744073709551617", "2147483648", "-2147483649"};
        for (String signs : none) {
            read(kind, signs, 10, false, REFUSED);
        }
        read(kind, "0", 10, false, 0);
        read(kind, "-0", 10, false, 0);
        read(kind, "+0", 10, false, 0);
        read(kind, "+7", 10, false, 7);
        read(kind, "-7", 10, false, -7);
        read(kind, "08", 10, false, 8);
        read(kind, "00000000000000000127", 10, false, 127);
        read(kind, "-0000000000000000128", 10, false, -128);
        fitting(kind, 10, false);
    }

    /** The last numbers that fit, and the first ones that do not. */
    private static void fitting(Kind kind, int base, boolean isTold) {
        int greatest = kind.span() / 2 - 1;
        String ahead = isTold ? (base == 16 ? "0x" : base == 8 ? "0" : "") : "";
        for (int number = greatest - 2; number <= greatest + 3; number++) {
            String signs = ahead + Integer.toString(number, base);
            read(kind, signs, base, isTold, number <= greatest ? number : REFUSED);
            read(kind, "+" + signs, base, isTold, number <= greatest ? number : REFUSED);
            read(kind, "-" + signs, base, isTold, -number >= -greatest - 1 ? -number : REFUSED);
        }
    }

    private static void parseBy(Kind kind) {
        for (int base = 2; base <= 36; base++) {
            fitting(kind, base, false);
            String last = Integer.toString(base - 1, base);
            read(kind, last, base, false, base - 1);
            read(kind, last.toUpperCase(), base, false, base - 1);
            read(kind, "-" + last.toUpperCase(), base, false, 1 - base);
            if (base < 36) {
                read(kind, Integer.toString(base, base + 1), base, false, REFUSED);
                read(kind, "1" + Integer.toString(base, base + 1).toUpperCase(), base, false, REFUSED);
            }
            read(kind, "{", base, false, REFUSED);
            read(kind, "@", base, false, REFUSED);
            read(kind, "", base, false, REFUSED);
            read(kind, "-", base, false, REFUSED);
        }
        for (int base : new int[] {1, 0, -1, -10, 37, 100, Integer.MIN_VALUE, Integer.MAX_VALUE}) {
            read(kind, "0", base, false, REFUSED);
            read(kind, "1", base, false, REFUSED);
            read(kind, "", base, false, REFUSED);
        }
        read(kind, "zzzzzzzzzzzzzzzzzzzz", 36, false, REFUSED);
        read(kind, "-zzzzzzzzzzzzzzzzzzz", 36, false, REFUSED);
        read(kind, "10000000000000000000", 16, false, REFUSED);
        read(kind, "10000000000000000001", 2, false, REFUSED);
        read(kind, "7f", 16, false, 127);
        read(kind, "0x7f", 16, false, REFUSED);
    }

    private static void decode(Kind kind) {
        String[] none = {"", "+", "-", "--1", "+-1", "-+1", "1-", "08", "-08", "09", "0x", "0X", "#", "-0x", "+#",
            "0x-1", "#-1", "#+1", "0-1", "0+1", "0x0x1", "##1", "#0x1", "00x1", "x1", "X1", "7f", "0xg", "#G",
            "0b1", "018", "1x1", " 1", "1 ", "0 ", "-", "\0", "0\0"};
        for (String signs : none) {
            read(kind, signs, 0, true, REFUSED);
        }
        String[] signs = {"0", "-0", "+0", "00", "07", "-017", "+017", "0x1F", "0X1f", "-#10", "+0x7f", "#7F",
            "12", "-12", "+90", "0x00000000000000007F", "-0000000000000000200", "010", "#0", "0x0", "100"};
        int[] numbers = {0, 0, 0, 0, 7, -15, 15, 31, 31, -16, 127, 127, 12, -12, 90, 127, -128, 8, 0, 0, 100};
        for (int i = 0; i < signs.length; i++) {
            read(kind, signs[i], 0, true, numbers[i]);
        }
        fitting(kind, 8, true);
        fitting(kind, 10, true);
        fitting(kind, 16, true);
    }

    private static void write(Kind kind) {
        for (int value : VALUES) {
            int number = cut(kind, value);
            for (int base = -2; base <= 40; base++) {
                Shortnumbers x = Check.withText("old signs here");
                kind.set(x, 2, value);
                String want = Integer.toString(number, base < 2 || base > 36 ? 10 : base);
                CHECK.due(call(kind, "write " + number + " by " + base), kind.write(x, 2, 0, base),
                        want.length());
                CHECK.due(call(kind, "the text"), x.text(0), want);
                CHECK.due(call(kind, "is then"), kind.of(x, 2, 0), number);
            }
        }
        for (int base : new int[] {Integer.MIN_VALUE, Integer.MAX_VALUE}) {
            Shortnumbers x = Check.filled();
            x.write(0, '3');
            x.write(0, '4');
            CHECK.due(call(kind, "write by " + base), kind.write(x, 0, 3, base), kind == Kind.BYTES ? 2 : 3);
            CHECK.due(call(kind, "the texts"), Check.texts(x), "1234|-1f|true|" + (kind == Kind.BYTES ? "-5" : "300"));
        }
    }

    private static void add(Kind kind) {
        for (int first : VALUES) {
            for (int second : VALUES) {
                Shortnumbers x = new Shortnumbers();
                kind.set(x, 0, first);
                kind.set(x, 1, second);
                int sum = cut(kind, cut(kind, first) + cut(kind, second));
                CHECK.due(call(kind, "add " + first + " and " + second), kind.add(x, 2, 0, 1), sum);
                CHECK.due(call(kind, "is then"), kind.of(x, 2, 0), sum);
                CHECK.due(call(kind, "the first"), kind.of(x, 0, 0), cut(kind, first));
                CHECK.due(call(kind, "the second"), kind.of(x, 1, 0), cut(kind, second));
            }
        }
        Shortnumbers x = new Shortnumbers();
        kind.set(x, 3, 21);
        CHECK.due(call(kind, "a number to itself"), kind.add(x, 3, 3, 3), 42);
    }

    private static void unsigned(Kind kind) {
        for (int value : VALUES) {
            Shortnumbers x = new Shortnumbers();
            kind.set(x, 1, value);
            long before = x.digest();
            CHECK.due(call(kind, "unsigned " + value), kind.unsigned(x, 1), "" + withoutSign(kind, value));
            CHECK.due(call(kind, "what is asked changes nothing"), x.digest(), before);
        }
    }

    private static void compareAndSame(Kind kind) {
        for (int first : VALUES) {
            for (int second : VALUES) {
                Shortnumbers x = new Shortnumbers();
                kind.set(x, 3, first);
                kind.set(x, 1, second);
                int a = cut(kind, first);
                int b = cut(kind, second);
                CHECK.due(call(kind, "compare " + a + ", " + b), kind.compare(x, 3, 1, false),
                        Integer.compare(a, b));
                CHECK.due(call(kind, "compare without a sign " + a + ", " + b), kind.compare(x, 3, 1, true),
                        Integer.compare(withoutSign(kind, a), withoutSign(kind, b)));
                CHECK.due(call(kind, "same " + a + ", " + b), kind.same(x, 3, 1), a == b);
            }
        }
        Shortnumbers x = Check.filled();
        long before = x.digest();
        kind.compare(x, 0, 1, true);
        kind.same(x, 0, 1);
        CHECK.due(call(kind, "what is asked changes nothing"), x.digest(), before);
        CHECK.due(call(kind, "same 2, 2"), kind.same(x, 2, 2), true);
        CHECK.due(call(kind, "compare 2, 2"), kind.compare(x, 2, 2, true), 0);
    }

    private static void refuses(Kind kind) {
        CHECK.refusesPlaces(call(kind, "set ?"), (x, k) -> kind.set(x, k, 1));
        CHECK.refusesPlaces(call(kind, "parse ?, 0"), (x, k) -> kind.parse(x, k, 0));
        CHECK.refusesPlaces(call(kind, "parse 0, ?"), (x, k) -> kind.parse(x, 0, k));
        CHECK.refusesPlaces(call(kind, "parseBy ?, 0, 16"), (x, k) -> kind.parseBy(x, k, 0, 16));
        CHECK.refusesPlaces(call(kind, "parseBy 0, ?, 16"), (x, k) -> kind.parseBy(x, 0, k, 16));
        CHECK.refusesPlaces(call(kind, "parseBy 0, ?, 1"), (x, k) -> kind.parseBy(x, 0, k, 1));
        CHECK.refusesPlaces(call(kind, "parseBy ?, 3, 10"), (x, k) -> kind.parseBy(x, k, 3, 10));
        CHECK.refusesPlaces(call(kind, "decode ?, 0"), (x, k) -> kind.decode(x, k, 0));
        CHECK.refusesPlaces(call(kind, "decode 0, ?"), (x, k) -> kind.decode(x, 0, k));
        CHECK.refusesPlaces(call(kind, "decode ?, 3"), (x, k) -> kind.decode(x, k, 3));
        CHECK.refusesPlaces(call(kind, "write ?, 0, 10"), (x, k) -> kind.write(x, k, 0, 10));
        CHECK.refusesPlaces(call(kind, "write 0, ?, 10"), (x, k) -> kind.write(x, 0, k, 10));
        CHECK.refusesPlaces(call(kind, "write 0, ?, 99"), (x, k) -> kind.write(x, 0, k, 99));
        CHECK.refusesPlaces(call(kind, "add ?, 0, 1"), (x, k) -> kind.add(x, k, 0, 1));
        CHECK.refusesPlaces(call(kind, "add 0, ?, 1"), (x, k) -> kind.add(x, 0, k, 1));
        CHECK.refusesPlaces(call(kind, "add 0, 1, ?"), (x, k) -> kind.add(x, 0, 1, k));
        CHECK.refusesPlaces(call(kind, "of ?, 0"), (x, k) -> kind.of(x, k, 0));
        CHECK.refusesPlaces(call(kind, "of ?, 5"), (x, k) -> kind.of(x, k, 5));
        CHECK.refusesWhat(call(kind, "of 0, ?"), 4, (x, what) -> kind.of(x, 0, what));
        CHECK.refusesPlaces(call(kind, "unsigned ?"), (x, k) -> kind.unsigned(x, k));
        CHECK.refusesPlaces(call(kind, "compare ?, 0"), (x, k) -> kind.compare(x, k, 0, false));
        CHECK.refusesPlaces(call(kind, "compare 0, ?"), (x, k) -> kind.compare(x, 0, k, true));
        CHECK.refusesPlaces(call(kind, "same ?, 0"), (x, k) -> kind.same(x, k, 0));
        CHECK.refusesPlaces(call(kind, "same 0, ?"), (x, k) -> kind.same(x, 0, k));
    }

    private static void ofByte() {
        for (int number = -128; number <= 127; number++) {
            Shortnumbers x = new Shortnumbers();
            x.setByte(1, number);
            long before = x.digest();
            CHECK.due("ofByte 0 of " + number, x.ofByte(1, 0), number);
            CHECK.due("ofByte 1 of " + number, x.ofByte(1, 1), number);
            CHECK.due("ofByte 2 of " + number, x.ofByte(1, 2), number < 0 ? number + 256 : number);
            CHECK.due("ofByte 3 of " + number, x.ofByte(1, 3), number);
            CHECK.due("ofByte 4 of " + number, x.ofByte(1, 4), number < 0 ? 1 : 0);
            CHECK.due("what is asked changes nothing", x.digest(), before);
        }
    }

    private static void ofShort() {
        for (int number = -32768; number <= 32767; number++) {
            Shortnumbers x = new Shortnumbers();
            x.setShort(1, number);
            CHECK.due("ofShort 0 of " + number, x.ofShort(1, 0), number);
            CHECK.due("ofShort 1 of " + number, x.ofShort(1, 1), (int) (byte) number);
            CHECK.due("ofShort 2 of " + number, x.ofShort(1, 2), number < 0 ? number + 65536 : number);
            CHECK.due("ofShort 3 of " + number, x.ofShort(1, 3), number);
            CHECK.due("ofShort 4 of " + number, x.ofShort(1, 4), (int) Short.reverseBytes((short) number));
            CHECK.due("ofShort changes nothing", x.ofShort(1, 0), number);
        }
    }

    private static void byteOfShort() {
        for (int value : VALUES) {
            Shortnumbers x = new Shortnumbers();
            x.setShort(2, value);
            CHECK.due("byteOfShort of " + value, x.byteOfShort(3, 2), (int) (byte) value);
            CHECK.due("ofByte(3, 0)", x.ofByte(3, 0), (int) (byte) value);
            CHECK.due("ofShort(2, 0)", x.ofShort(2, 0), (int) (short) value);
            CHECK.due("ofShort(3, 0)", x.ofShort(3, 0), 0);
        }
        CHECK.refusesPlaces("byteOfShort(?, 0)", (x, k) -> x.byteOfShort(k, 0));
        CHECK.refusesPlaces("byteOfShort(0, ?)", (x, k) -> x.byteOfShort(0, k));
    }

    private static void shortOfByte() {
        for (int number = -128; number <= 127; number++) {
            Shortnumbers x = new Shortnumbers();
            x.setByte(2, number);
            CHECK.due("shortOfByte of " + number, x.shortOfByte(3, 2, false), number);
            CHECK.due("ofShort(3, 0)", x.ofShort(3, 0), number);
            CHECK.due("without a sign of " + number, x.shortOfByte(3, 2, true), number & 255);
            CHECK.due("ofShort(3, 0)", x.ofShort(3, 0), number & 255);
            CHECK.due("ofByte(2, 0)", x.ofByte(2, 0), number);
            CHECK.due("ofByte(3, 0)", x.ofByte(3, 0), 0);
        }
        CHECK.refusesPlaces("shortOfByte(?, 0)", (x, k) -> x.shortOfByte(k, 0, true));
        CHECK.refusesPlaces("shortOfByte(0, ?)", (x, k) -> x.shortOfByte(0, k, false));
    }

    private static void turn() {
        for (int number = -32768; number <= 32767; number++) {
            Shortnumbers x = new Shortnumbers();
            x.setShort(2, number);
            int turned = Short.reverseBytes((short) number);
            CHECK.due("turn of " + number, x.turn(2), turned);
            CHECK.due("ofShort(2, 0)", x.ofShort(2, 0), turned);
            CHECK.due("turn twice of " + number, x.turn(2), number);
        }
        Shortnumbers x = Check.filled();
        x.turn(0);
        CHECK.due("the others", x.ofShort(1, 0) + x.ofShort(2, 0) + x.ofShort(3, 0), -3);
        CHECK.refusesPlaces("turn(?)", (y, k) -> y.turn(k));
    }
}
