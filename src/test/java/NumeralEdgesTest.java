import java.io.IOException;

/** The boundary cases that "2. Numerals" names, and the promises that read and write by them. */
public final class NumeralEdgesTest {
    private static final Check CHECK = new Check("NumeralEdgesTest");
    private static final int REFUSED = -99999;
    private static final int[] NO_BASES = {1, 37, 0, -1, -2, -10, -36, 38, 100, Integer.MIN_VALUE, Integer.MAX_VALUE};
    /** Not by a BASE, but as a told numeral. */
    private static final int TOLD = -7;
    /** Numerals that come to a small number, or to 0, once 32 or 64 binary digits of them are kept. */
    private static final String[] WRAPPING = {"4294967296", "4294967297", "-4294967295", "8589934593",
        "18446744073709551616", "18446744073709551617", "2147483648", "-2147483649", "9223372036854775808",
        "-9223372036854775807", "99999999999999999999", "-9999999999999999999", "65536", "65537", "-65535", "65664"};

    public static void main(String[] args) throws IOException {
        Sentences document = new Sentences(CHECK);
        String here = "2. Numerals";
        document.hold(here, "BASES are 2 to 36.", NumeralEdgesTest::bases);
        document.hold(here, "\"0\" to \"9\" (0 to 9), \"A\" to \"Z\" and \"a\" to \"z\" (10 to 35)",
                NumeralEdgesTest::digits);
        document.hold(here, "if that is below the BASE.", NumeralEdgesTest::digitsAtTheBase);
        document.hold(here, "one \"+\" or \"-\", or none, then one digit of the BASE or more, nothing else;",
                NumeralEdgesTest::form);
        document.hold(here, "its number is told by the digits, below 0 with \"-\".", NumeralEdgesTest::belowZero);
        document.hold(here, "(Zeros may stand ahead.)", NumeralEdgesTest::zerosAhead);
        document.hold(here, "By a number that is no BASE nothing is a numeral.", NumeralEdgesTest::readByNoBase);
        document.hold(here, "A told numeral: one \"+\" or \"-\", or none;", NumeralEdgesTest::toldSigns);
        document.hold(here, "then \"0x\", \"0X\" or \"#\", and a numeral by 16 without a sign;",
                NumeralEdgesTest::toldBy16);
        document.hold(here, "or \"0\" and a numeral by 8 without a sign;", NumeralEdgesTest::toldBy8);
        document.hold(here, "or a numeral by 10 without a sign (\"0\" alone is one).", NumeralEdgesTest::toldBy10);
        document.hold(here, "So \"0\" and further signs is by 8, and \"08\" is none;",
                NumeralEdgesTest::zeroAndFurtherSigns);
        document.hold(here, "only one sign \"+\" or \"-\" may stand there, ahead of all.",
                NumeralEdgesTest::oneSignAhead);
        document.hold(here, "Written by a BASE a number is its numeral, without zeros ahead,",
                NumeralEdgesTest::written);
        document.hold(here, "\"-\" ahead if it is below 0,", NumeralEdgesTest::writtenBelowZero);
        document.hold(here, "with small letters;", NumeralEdgesTest::writtenSmall);
        document.hold(here, "by a number that is no BASE it is written by 10.", NumeralEdgesTest::writtenByNoBase);

        String refused = "REFUSED, if that is no numeral, or the number does not fit.";
        String refusedTold = "REFUSED, if that is none, or the number does not fit.";
        document.hold(7, refused, () -> fits10(Kind.BYTES));
        document.hold(17, refused, () -> fits10(Kind.SHORTS));
        document.hold(8, refused, () -> fitsBy(Kind.BYTES));
        document.hold(18, refused, () -> fitsBy(Kind.SHORTS));
        document.hold(9, refusedTold, () -> fitsTold(Kind.BYTES));
        document.hold(19, refusedTold, () -> fitsTold(Kind.SHORTS));
        document.hold(10, "Returns how many signs it has then.", () -> lengths(Kind.BYTES));
        document.hold(20, "Returns how many signs it has then.", () -> lengths(Kind.SHORTS));
        document.hold(10, "A TEXT becomes what a BYTE is, written by a BASE.", () -> rewritten(Kind.BYTES));
        document.hold(20, "A TEXT becomes what a SHORT is, written by a BASE.", () -> rewritten(Kind.SHORTS));
        document.end(7, 8, 9, 10, 17, 18, 19, 20);
    }

    /** Reads the signs into the BYTE or SHORT 1 of a filled object: only that may change, and only by a numeral. */
    private static void reads(Kind kind, String signs, int base, int want) {
        Shortnumbers like = Check.type(Check.filled(), 2, signs);
        if (want != REFUSED) {
            kind.set(like, 1, want);
        }
        String call = kind + " of \"" + signs + "\" by " + (base == TOLD ? "what is told" : base);
        Shortnumbers x = Check.type(Check.filled(), 2, signs);
        int got = base == TOLD ? kind.decode(x, 1, 2) : kind.parseBy(x, 1, 2, base);
        CHECK.leaves(call, got, want, x, like);
        if (base == 10) {
            Shortnumbers y = Check.type(Check.filled(), 2, signs);
            CHECK.leaves(call + ", the base not given", kind.parse(y, 1, 2), want, y, like);
        }
    }

    private static void readsBoth(String signs, int base, int want) {
        reads(Kind.BYTES, signs, base, want);
        reads(Kind.SHORTS, signs, base, want);
    }

    private static void refusesBoth(int base, String... texts) {
        for (String signs : texts) {
            readsBoth(signs, base, REFUSED);
        }
    }

    private static void bases() {
        readsBoth("1", 1, REFUSED);
        readsBoth("1", 2, 1);
        readsBoth("z", 36, 35);
        readsBoth("z", 37, REFUSED);
        Shortnumbers x = new Shortnumbers();
        x.setSign(0, '1');
        CHECK.due("digit of 1 by 1", x.digit(0, 1), -1);
        CHECK.due("digit of 1 by 2", x.digit(0, 2), 1);
        CHECK.due("digit of 1 by 36", x.digit(0, 36), 1);
        CHECK.due("digit of 1 by 37", x.digit(0, 37), -1);
        CHECK.due("forDigit of 0 by 1", x.forDigit(0, 0, 1), 0);
        CHECK.due("forDigit of 0 by 2", x.forDigit(0, 0, 2), 48);
        CHECK.due("forDigit of 0 by 36", x.forDigit(0, 0, 36), 48);
        CHECK.due("forDigit of 0 by 37", x.forDigit(0, 0, 37), 0);
        CHECK.due("the least", x.house(3), 2);
        CHECK.due("the greatest", x.house(4), 36);
    }

    private static void digits() {
        String small = "0123456789abcdefghijklmnopqrstuvwxyz";
        for (int digit = 0; digit < 36; digit++) {
            readsBoth(small.substring(digit, digit + 1), 36, digit);
            readsBoth(small.substring(digit, digit + 1).toUpperCase(), 36, digit);
        }
        refusesBoth(36, "/", ":", "@", "[", "`", "{", "\0", "\177", " ", "1/", "1:", "1@", "1[", "1`", "1{");
        refusesBoth(16, "/", ":", "@", "[", "`", "{", "1/", "1:", "1@", "1[", "1`", "1{");
        refusesBoth(TOLD, "/", ":", "#/", "#:", "#@", "#G", "#`", "#g", "0/", "0:");
    }

    private static void digitsAtTheBase() {
        String small = "0123456789abcdefghijklmnopqrstuvwxyz";
        for (int base = 2; base <= 36; base++) {
            String last = small.substring(base - 1, base);
            readsBoth(last, base, base - 1);
            readsBoth(last.toUpperCase(), base, base - 1);
            readsBoth("1" + last, base, base + base - 1);
            readsBoth("-" + last, base, 1 - base);
            if (base < 36) {
                String next = small.substring(base, base + 1);
                refusesBoth(base, next, next.toUpperCase(), "1" + next, next + "1", "-" + next, "0" + next);
            }
        }
    }

    private static void form() {
        for (int base : new int[] {2, 10, 16, 36}) {
            refusesBoth(base, "", "+", "-", "++1", "--1", "+-1", "-+1", "+ 1", "1+", "1-", "1+1", " 1", "1 ", "1\0",
                    "\0001", "1.1", "1,1", "#1", "1_1", "\t1", "1\n");
            readsBoth("+1", base, 1);
            readsBoth("-1", base, -1);
            readsBoth("1", base, 1);
            readsBoth("11", base, base + 1);
        }
        for (int base : new int[] {2, 10, 16, 33}) {
            refusesBoth(base, "0x", "0X", "0x1", "#", "#1");
        }
        readsBoth("0x", 34, 33);
        reads(Kind.SHORTS, "0x1", 34, 33 * 34 + 1);
    }

    private static void belowZero() {
        readsBoth("0", 10, 0);
        readsBoth("-0", 10, 0);
        readsBoth("+0", 10, 0);
        readsBoth("-1", 10, -1);
        readsBoth("-10", 10, -10);
        readsBoth("+10", 10, 10);
        readsBoth("-z", 36, -35);
        readsBoth("+Z", 36, 35);
        readsBoth("-101", 2, -5);
    }

    private static void zerosAhead() {
        readsBoth("00000000000000000000", 10, 0);
        readsBoth("-0000000000000000000", 10, 0);
        readsBoth("+0000000000000000000", 2, 0);
        readsBoth("00000000000000000001", 2, 1);
        readsBoth("00000000000000000127", 10, 127);
        readsBoth("-0000000000000000128", 10, -128);
        readsBoth("+000000000000000007F", 16, 127);
        readsBoth("0000000000000000003j", 36, 127);
        readsBoth("08", 10, 8);
        readsBoth("00", 2, 0);
        reads(Kind.SHORTS, "00000000000000032767", 10, 32767);
        reads(Kind.SHORTS, "-0000000000000032768", 10, -32768);
        reads(Kind.SHORTS, "00000000000000032768", 10, REFUSED);
        reads(Kind.SHORTS, "-0000000000000032769", 10, REFUSED);
        reads(Kind.BYTES, "00000000000000000128", 10, REFUSED);
        reads(Kind.BYTES, "-0000000000000000129", 10, REFUSED);
        readsBoth("0x000000000000000007", TOLD, 7);
        readsBoth("#0000000000000000007", TOLD, 7);
        readsBoth("-0000000000000000177", TOLD, -127);
        readsBoth("00000000000000000000", TOLD, 0);
    }

    private static void readByNoBase() {
        for (int base : NO_BASES) {
            refusesBoth(base, "", "0", "1", "-1", "+1", "10", "z", "7f", "+", "-", "0x1");
        }
    }

    private static void toldSigns() {
        readsBoth("12", TOLD, 12);
        readsBoth("+12", TOLD, 12);
        readsBoth("-12", TOLD, -12);
        readsBoth("+0x12", TOLD, 18);
        readsBoth("-0X12", TOLD, -18);
        readsBoth("+#12", TOLD, 18);
        readsBoth("-#12", TOLD, -18);
        readsBoth("+012", TOLD, 10);
        readsBoth("-012", TOLD, -10);
        readsBoth("+0", TOLD, 0);
        readsBoth("-0", TOLD, 0);
        refusesBoth(TOLD, "", "+", "-");
    }

    private static void toldBy16() {
        String[] heads = {"0x", "0X", "#", "+0x", "+0X", "+#"};
        for (String head : heads) {
            readsBoth(head + "0", TOLD, 0);
            readsBoth(head + "9", TOLD, 9);
            readsBoth(head + "a", TOLD, 10);
            readsBoth(head + "F", TOLD, 15);
            readsBoth(head + "7f", TOLD, 127);
            readsBoth(head + "08", TOLD, 8);
            refusesBoth(TOLD, head, head + "g", head + "G", head + "1g", head + "x",
                    head + "0x1", head + "#1", head + " ");
        }
        readsBoth("-0x80", TOLD, -128);
        readsBoth("-0X80", TOLD, -128);
        readsBoth("-#80", TOLD, -128);
        refusesBoth(TOLD, "-0x", "-0X", "-#", "x1", "X1", "00x1", "1x1", "1#", "##1", "0#1", "0 x1", "$1",
                "\"1", "0w1", "0y1");
    }

    private static void toldBy8() {
        readsBoth("00", TOLD, 0);
        readsBoth("01", TOLD, 1);
        readsBoth("07", TOLD, 7);
        readsBoth("010", TOLD, 8);
        readsBoth("077", TOLD, 63);
        readsBoth("0177", TOLD, 127);
        readsBoth("-0200", TOLD, -128);
        readsBoth("-07", TOLD, -7);
        readsBoth("+010", TOLD, 8);
        reads(Kind.SHORTS, "077777", TOLD, 32767);
        reads(Kind.SHORTS, "-0100000", TOLD, -32768);
    }

    private static void toldBy10() {
        readsBoth("0", TOLD, 0);
        readsBoth("+0", TOLD, 0);
        readsBoth("-0", TOLD, 0);
        readsBoth("9", TOLD, 9);
        readsBoth("10", TOLD, 10);
        readsBoth("80", TOLD, 80);
        readsBoth("-128", TOLD, -128);
        refusesBoth(TOLD, "a", "1a", "A", "1e1", "0 ", " 0", "9 ", "1.0");
    }

    private static void zeroAndFurtherSigns() {
        refusesBoth(TOLD, "08", "09", "+08", "-08", "-09", "018", "008", "0008", "00009", "0a", "0/");
        readsBoth("08", 10, 8);
        readsBoth("012", TOLD, 10);
        readsBoth("0012", TOLD, 10);
        readsBoth("000", TOLD, 0);
    }

    private static void oneSignAhead() {
        refusesBoth(TOLD, "++1", "--1", "+-1", "-+1", "+-0", "0x+1", "0x-1", "0X-1", "#+1", "#-1", "0-1", "0+1", "0+",
                "0-", "1-", "1+", "-0x-1", "-#-1", "-0-1", "+#+1", "--0x1", "--#1", "--01", "x-1", "-x1");
        for (int base : new int[] {2, 8, 10, 16, 36}) {
            refusesBoth(base, "++1", "--1", "+-1", "-+1", "1-1", "1-", "0-1");
        }
    }

    private static void written() {
        for (int base = 2; base <= 36; base++) {
            writes(0, base, "0");
            writes(1, base, "1");
            writes(base, base, "10");
            writes(base + 1, base, "11");
        }
        writes(127, 2, "1111111");
        writes(32767, 2, "111111111111111");
        writes(127, 36, "3j");
        writes(32767, 36, "pa7");
        writes(100, 10, "100");
        writes(32760, 10, "32760");
    }

    private static void writtenBelowZero() {
        for (int base = 2; base <= 36; base++) {
            writes(-1, base, "-1");
            writes(-base, base, "-10");
        }
        writes(-127, 2, "-1111111");
        writes(-128, 2, "-10000000");
        writes(-128, 3, "-11202");
        writes(-128, 8, "-200");
        writes(-128, 10, "-128");
        writes(-128, 16, "-80");
        writes(-128, 36, "-3k");
        writes(-32767, 2, "-111111111111111");
        writes(-32768, 2, "-1000000000000000");
        writes(-32768, 3, "-1122221122");
        writes(-32768, 10, "-32768");
        writes(-32768, 16, "-8000");
        writes(-32768, 36, "-pa8");
    }

    private static void writtenSmall() {
        writes(10, 11, "a");
        writes(-10, 16, "-a");
        writes(35, 36, "z");
        writes(-35, 36, "-z");
        writes(127, 16, "7f");
        writes(32767, 16, "7fff");
        writes(-21846, 16, "-5556");
        writes(10 * 36 + 35, 36, "az");
    }

    private static void writtenByNoBase() {
        for (int base : NO_BASES) {
            writes(0, base, "0");
            writes(1, base, "1");
            writes(-1, base, "-1");
            writes(10, base, "10");
            writes(127, base, "127");
            writes(-128, base, "-128");
            writes(32767, base, "32767");
            writes(-32768, base, "-32768");
        }
        writes(37, 37, "37");
        writes(35, 37, "35");
        writes(36, 36, "10");
        writes(2, 2, "10");
        writes(2, 1, "2");
    }

    /** Written as a SHORT, and as a BYTE where it is one: only the TEXT may change, to just this. */
    private static void writes(int number, int base, String want) {
        for (Kind kind : Kind.values()) {
            if (number >= -kind.span() / 2 && number < kind.span() / 2) {
                Shortnumbers x = Check.type(Check.filled(), 3, Check.TWENTY);
                kind.set(x, 2, number);
                Shortnumbers like = Check.type(Check.filled(), 3, want);
                kind.set(like, 2, number);
                String call = kind + " " + number + " by " + base;
                CHECK.leaves(call, kind.write(x, 2, 3, base), want.length(), x, like);
                CHECK.due(call + ", the text", x.text(3), want);
            }
        }
    }

    /** The numbers round both ends of a kind, by 10; the others by what they come to elsewhere. */
    private static void fits10(Kind kind) {
        int greatest = kind.span() / 2 - 1;
        reads(kind, "" + (greatest - 1), 10, greatest - 1);
        reads(kind, "" + greatest, 10, greatest);
        reads(kind, "" + (greatest + 1), 10, REFUSED);
        reads(kind, "+" + greatest, 10, greatest);
        reads(kind, "+" + (greatest + 1), 10, REFUSED);
        reads(kind, "-" + greatest, 10, -greatest);
        reads(kind, "-" + (greatest + 1), 10, -greatest - 1);
        reads(kind, "-" + (greatest + 2), 10, REFUSED);
        reads(kind, "" + (kind.span() - 1), 10, REFUSED);
        reads(kind, "" + kind.span(), 10, REFUSED);
        reads(kind, "-" + kind.span(), 10, REFUSED);
        reads(kind, greatest + "0", 10, REFUSED);
        reads(kind, "-99999", 10, REFUSED);
        reads(kind, "99999", 10, REFUSED);
        reads(kind, "", 10, REFUSED);
        reads(kind, "+", 10, REFUSED);
        reads(kind, "-", 10, REFUSED);
        reads(kind, greatest + "a", 10, REFUSED);
        for (String signs : WRAPPING) {
            reads(kind, signs, 10, REFUSED);
        }
    }

    private static void fitsBy(Kind kind) {
        int greatest = kind.span() / 2 - 1;
        for (int base = 2; base <= 36; base++) {
            String fits = Integer.toString(greatest, base);
            String next = Integer.toString(greatest + 1, base);
            String above = Integer.toString(greatest + 2, base);
            reads(kind, fits, base, greatest);
            reads(kind, fits.toUpperCase(), base, greatest);
            reads(kind, "+" + fits, base, greatest);
            reads(kind, next, base, REFUSED);
            reads(kind, "+" + next, base, REFUSED);
            reads(kind, "-" + fits, base, -greatest);
            reads(kind, "-" + next, base, -greatest - 1);
            reads(kind, "-" + next.toUpperCase(), base, -greatest - 1);
            reads(kind, "-" + above, base, REFUSED);
            reads(kind, Integer.toString(kind.span(), base), base, REFUSED);
            reads(kind, Integer.toString(kind.span() - 1, base), base, REFUSED);
            reads(kind, fits + "0", base, REFUSED);
            reads(kind, "-" + next + "0", base, REFUSED);
        }
        reads(kind, "100000000000000000", 4, REFUSED);
        reads(kind, "10000000000000001", 16, REFUSED);
        reads(kind, "100000001", 16, REFUSED);
        reads(kind, "40000000001", 8, REFUSED);
        reads(kind, "zzzzzzzzzzzzzzzzzzzz", 36, REFUSED);
        reads(kind, "-zzzzzzzzzzzzzzzzzzz", 36, REFUSED);
        reads(kind, "11111111111111111111", 2, REFUSED);
    }

    private static void fitsTold(Kind kind) {
        int greatest = kind.span() / 2 - 1;
        int[] bases = {16, 16, 16, 8, 10};
        String[] heads = {"0x", "0X", "#", "0", ""};
        for (int i = 0; i < bases.length; i++) {
            String fits = heads[i] + Integer.toString(greatest, bases[i]);
            String next = heads[i] + Integer.toString(greatest + 1, bases[i]);
            String above = heads[i] + Integer.toString(greatest + 2, bases[i]);
            reads(kind, fits, TOLD, greatest);
            reads(kind, "+" + fits, TOLD, greatest);
            reads(kind, "-" + fits, TOLD, -greatest);
            reads(kind, next, TOLD, REFUSED);
            reads(kind, "+" + next, TOLD, REFUSED);
            reads(kind, "-" + next, TOLD, -greatest - 1);
            reads(kind, "-" + above, TOLD, REFUSED);
            reads(kind, heads[i] + Integer.toString(kind.span() - 1, bases[i]), TOLD, REFUSED);
        }
        String[] wrapping = {"0x100000000", "#100000001", "-0X100000001", "0x10000000000000000", "#10000000000000001",
            "040000000000", "040000000001", "-0200000000000000001", "02000000000000000000",
            "0xffffffff", "#FFFFFFFFFFFFFFFF"};
        for (String signs : wrapping) {
            reads(kind, signs, TOLD, REFUSED);
        }
        for (String signs : WRAPPING) {
            reads(kind, signs, TOLD, REFUSED);
        }
    }

    private static void lengths(Kind kind) {
        int[] numbers = {0, 1, -1, kind.span() / 2 - 1, -kind.span() / 2};
        int[] by2 = kind == Kind.BYTES ? new int[] {1, 1, 2, 7, 9} : new int[] {1, 1, 2, 15, 17};
        int[] by36 = kind == Kind.BYTES ? new int[] {1, 1, 2, 2, 3} : new int[] {1, 1, 2, 3, 4};
        int[] by37 = kind == Kind.BYTES ? new int[] {1, 1, 2, 3, 4} : new int[] {1, 1, 2, 5, 6};
        for (int i = 0; i < numbers.length; i++) {
            Shortnumbers x = Check.filled();
            kind.set(x, 3, numbers[i]);
            CHECK.due(numbers[i] + " by 2", kind.write(x, 3, 0, 2), by2[i]);
            CHECK.due("clear(0) then", x.clear(0), by2[i]);
            CHECK.due(numbers[i] + " by 36", kind.write(x, 3, 0, 36), by36[i]);
            CHECK.due("clear(0) then", x.clear(0), by36[i]);
            CHECK.due(numbers[i] + " by 37", kind.write(x, 3, 0, 37), by37[i]);
            CHECK.due("clear(0) then", x.clear(0), by37[i]);
            CHECK.due(numbers[i] + " by 1", kind.write(x, 3, 0, 1), by37[i]);
            CHECK.due("clear(0) then", x.clear(0), by37[i]);
        }
    }

    /** Over an empty TEXT and over a full one; behind it there is the room that is left, and no more. */
    private static void rewritten(Kind kind) {
        for (String before : new String[] {"", "7", Check.TWENTY}) {
            Shortnumbers x = Check.type(Check.filled(), 1, before);
            kind.set(x, 0, -kind.span() / 2);
            int length = kind.write(x, 0, 1, 2);
            String want = kind == Kind.BYTES ? "-10000000" : "-1000000000000000";
            CHECK.due("the texts", Check.texts(x), "12|" + want + "|true|x");
            for (int count = length + 1; count <= 20; count++) {
                CHECK.due("write as no. " + count, x.write(1, 49), count);
            }
            CHECK.refuses("write as no. 21", x, IllegalStateException.class, (y, sign) -> y.write(1, sign), 49);
            kind.set(x, 0, 0);
            CHECK.due("0 over it", kind.write(x, 0, 1, 2), 1);
            CHECK.due("the texts then", Check.texts(x), "12|0|true|x");
        }
    }
}
