import java.io.IOException;
import java.math.BigInteger;
import java.util.ArrayList;
import java.util.List;

/** The boundary cases of the promises 43 to 46, a test for each sentence. */
public final class HouseEdgesTest {
    private static final Check CHECK = new Check("HouseEdgesTest");
    private static final int REFUSED = -99999;

    public static void main(String[] args) throws IOException {
        Sentences document = new Sentences(CHECK);
        document.hold(43, "0 how often one knocked,", HouseEdgesTest::knocks);
        document.hold(43, "1 signs of all TEXTS,", HouseEdgesTest::signsOfTexts);
        document.hold(43, "2 how many FLAGS are true,", HouseEdgesTest::trueFlags);
        document.hold(43, "3 the least BASE, 4 the greatest BASE", HouseEdgesTest::bases);
        document.hold(44, "Returns how often one knocked, with this.", HouseEdgesTest::knock);
        document.hold(45, "each BYTE and each SHORT, written by each BASE and read by it, is what it was;",
                HouseEdgesTest::writtenAndRead);
        document.hold(45, "WITHOUT A SIGN and CUT it is what it was;", HouseEdgesTest::withoutSignAndCut);
        document.hold(45, "each SHORT, TURNED twice, is what it was;", HouseEdgesTest::turnedTwice);
        document.hold(45, "of each two numbers of a kind that are the SAME both orders tell 0, "
                + "of others the opposite the other way round;", HouseEdgesTest::orders);
        document.hold(45, "each SIGN that is a digit of 36 has, made of that digit, the same digit.",
                HouseEdgesTest::digits);
        document.hold(46, "A number d starts with 7706;", () -> digests(new Shortnumbers()));
        document.hold(46, "which wraps around as a 64-bit integer,", HouseEdgesTest::wraps);
        document.hold(46, "of the TEXT k the numbers of its signs;", HouseEdgesTest::digestOfTexts);
        document.hold(46, "of the SHORT k ofShort() of 0 to 4, of the SIGN k ofSign() of 0 to 3, "
                + "and 1 or 0 for isSign() of 0 to 6,", HouseEdgesTest::digestOfEdges);
        document.hold(46, "compareSigns(), all of 0 and 1; compareFlags() of 2 and 3;", HouseEdgesTest::digestOfOrders);
        document.hold(46, "house() of 0 to 4; 1 if isSound(), otherwise 0.", HouseEdgesTest::digestOfHouse);
        document.end(43, 44, 45, 46);
    }

    private static void knocks() {
        Shortnumbers x = new Shortnumbers();
        CHECK.due("house(0) before", x.house(0), 0);
        x.knock();
        CHECK.due("house(0) after one", x.house(0), 1);
        CHECK.due("house(0) once more", x.house(0), 1);
        CHECK.due("house(0) of another", new Shortnumbers().house(0), 0);
    }

    private static void signsOfTexts() {
        Shortnumbers x = new Shortnumbers();
        int count = 0;
        CHECK.due("house(1) of none", x.house(1), 0);
        for (int k = 0; k < 4; k++) {
            for (int signs = 0; signs < 20; signs++) {
                x.write(k, 0);
                count++;
                CHECK.due("house(1) of " + count, x.house(1), count);
            }
        }
        CHECK.refuses("write(3, ?)", x, IllegalStateException.class, (y, sign) -> y.write(3, sign), 65);
        CHECK.due("house(1) of all", x.house(1), 80);
        x.clear(0);
        CHECK.due("house(1) without the first", x.house(1), 60);
        x.writeByte(0, 3, 10);
        CHECK.due("house(1) with 0 in the last", x.house(1), 41);
        x.writeFlag(0, 1);
        CHECK.due("house(1) with false in the second", x.house(1), 26);
    }

    private static void trueFlags() {
        for (int flags = 0; flags < 16; flags++) {
            Shortnumbers x = new Shortnumbers();
            for (int k = 0; k < 4; k++) {
                x.setFlag(k, (flags >> k & 1) == 1);
            }
            CHECK.due("house(2) of the flags " + flags, x.house(2), Integer.bitCount(flags));
        }
    }

    private static void bases() {
        for (Shortnumbers x : List.of(new Shortnumbers(), Check.filled(), Check.full())) {
            CHECK.due("house(3)", x.house(3), 2);
            CHECK.due("house(4)", x.house(4), 36);
        }
    }

    private static void knock() {
        Shortnumbers x = new Shortnumbers();
        CHECK.due("the first", x.knock(), 1);
        CHECK.due("the second", x.knock(), 2);
        String before = Check.state(x).substring("knocks 2".length());
        CHECK.refuses("house(?)", x, IllegalArgumentException.class, (y, what) -> y.house(what), 5);
        CHECK.due("the third", x.knock(), 3);
        CHECK.due("the rest of the state", Check.state(x).substring("knocks 3".length()), before);
        CHECK.due("the first of another", new Shortnumbers().knock(), 1);
    }

    /** The same by the calls themselves, for the numbers at the edges; and what isSound() tells of them. */
    private static void writtenAndRead() {
        for (Kind kind : Kind.values()) {
            int greatest = kind.span() / 2 - 1;
            for (int number : new int[] {0, 1, -1, 35, 36, -36, greatest - 1, greatest, -greatest, -greatest - 1}) {
                Shortnumbers x = new Shortnumbers();
                kind.set(x, 1, number);
                for (int base = 2; base <= 36; base++) {
                    kind.write(x, 1, 3, base);
                    CHECK.due(number + " by " + base, kind.parseBy(x, 2, 3, base), number);
                    kind.write(x, 1, 3, 37);
                    CHECK.due(number + " by no BASE", kind.parseBy(x, 2, 3, 37), REFUSED);
                }
                CHECK.due("isSound of " + number, x.isSound(), true);
            }
        }
    }

    private static void withoutSignAndCut() {
        for (int number : new int[] {0, 127, -128, -1, 1, -127}) {
            Shortnumbers x = new Shortnumbers();
            x.setByte(0, number);
            CHECK.due("the BYTE " + number, x.setByte(1, x.ofByte(0, 2)), number);
            CHECK.due("isSound of " + number, x.isSound(), true);
        }
        for (int number : new int[] {0, 32767, -32768, -1, 1, -32767, 128, -129}) {
            Shortnumbers x = new Shortnumbers();
            x.setShort(0, number);
            CHECK.due("the SHORT " + number, x.setShort(1, x.ofShort(0, 2)), number);
            CHECK.due("isSound of " + number, x.isSound(), true);
        }
    }

    private static void turnedTwice() {
        for (int number : new int[] {0, 1, 127, 128, 255, 256, 32512, 32767, -1, -128, -129, -256, -32768}) {
            Shortnumbers x = new Shortnumbers();
            x.setShort(3, number);
            x.turn(3);
            CHECK.due("isSound of " + number + " turned", x.isSound(), true);
            CHECK.due(number + " turned twice", x.turn(3), number);
            CHECK.due("isSound of " + number, x.isSound(), true);
        }
    }

    private static void orders() {
        for (Kind kind : Kind.values()) {
            int greatest = kind.span() / 2 - 1;
            Shortnumbers x = new Shortnumbers();
            int[] numbers = {-greatest - 1, greatest, -1, -1};
            for (int k = 0; k < 4; k++) {
                kind.set(x, k, numbers[k]);
            }
            for (int a = 0; a < 4; a++) {
                for (int b = 0; b < 4; b++) {
                    int back = kind.compare(x, b, a, false);
                    CHECK.due("with a sign " + a + ", " + b, kind.compare(x, a, b, false), -back);
                    back = kind.compare(x, b, a, true);
                    CHECK.due("without one " + a + ", " + b, kind.compare(x, a, b, true), -back);
                }
            }
            CHECK.due("the SAME with a sign", kind.compare(x, 2, 3, false), 0);
            CHECK.due("the SAME without one", kind.compare(x, 2, 3, true), 0);
            CHECK.due("isSound", x.isSound(), true);
        }
    }

    private static void digits() {
        for (int sign = 0; sign <= 127; sign++) {
            Shortnumbers x = new Shortnumbers();
            x.setSign(0, sign);
            int digit = x.digit(0, 36);
            if (digit != -1) {
                x.forDigit(1, digit, 36);
                CHECK.due("the digit of the sign " + sign, x.digit(1, 36), digit);
            }
            CHECK.due("isSound with the sign " + sign, x.isSound(), true);
        }
    }

    /** The document's checksum, of the answers that the object itself gives; v by v, in its order. */
    private static List<Integer> values(Shortnumbers x) {
        List<Integer> values = new ArrayList<>();
        for (int k = 0; k < 4; k++) {
            for (int what = 0; what <= 4; what++) {
                values.add(x.ofByte(k, what));
            }
            for (int what = 0; what <= 4; what++) {
                values.add(x.ofShort(k, what));
            }
            for (int what = 0; what <= 3; what++) {
                values.add(x.ofSign(k, what));
            }
            for (int what = 0; what <= 6; what++) {
                values.add(x.isSign(k, what) ? 1 : 0);
            }
            values.add(x.ofFlag(k, 0));
            values.add(x.ofFlag(k, 1));
            x.text(k).chars().forEach(values::add);
        }
        values.add(x.compareBytes(0, 1, false));
        values.add(x.compareBytes(0, 1, true));
        values.add(x.compareShorts(0, 1, false));
        values.add(x.compareShorts(0, 1, true));
        values.add(x.compareSigns(0, 1));
        values.add(x.compareFlags(2, 3));
        for (int what = 0; what <= 4; what++) {
            values.add(x.house(what));
        }
        values.add(x.isSound() ? 1 : 0);
        return values;
    }

    /** Worked out without any bound and cut to 64 binary digits only at the end. */
    private static BigInteger unbounded(Shortnumbers x) {
        BigInteger d = BigInteger.valueOf(7706);
        for (int v : values(x)) {
            d = d.multiply(BigInteger.valueOf(31)).add(BigInteger.valueOf(v));
        }
        return d;
    }

    private static void digests(Shortnumbers x) {
        CHECK.due("digest()", x.digest(), unbounded(x).longValue());
    }

    private static void wraps() {
        for (Shortnumbers x : List.of(new Shortnumbers(), Check.filled(), Check.full())) {
            CHECK.due("whether it goes beyond 64 digits", unbounded(x).bitLength() > 64, true);
            CHECK.due("digest()", x.digest(), unbounded(x).longValue());
            CHECK.due("whether it goes beyond 32 digits", x.digest() == (int) x.digest(), false);
        }
    }

    private static void digestOfTexts() {
        for (int signs = 0; signs <= 20; signs++) {
            for (int k = 0; k < 4; k++) {
                digests(Check.type(Check.filled(), k, Check.TWENTY.substring(0, signs)));
                digests(Check.type(new Shortnumbers(), k, "\0".repeat(signs)));
            }
        }
        digests(Check.full());
        Shortnumbers x = Check.full();
        x.clear(0);
        digests(x);
    }

    private static void digestOfEdges() {
        int[] shorts = {-32768, 32767, 128, -129, 255, 256, -1, 0};
        int[] bytes = {-128, 127, -1, 0, 1, -127, 126, 64};
        int[] signs = {0, 127, 8, 9, 13, 14, 27, 28, 32, 33, 47, 48, 57, 58, 64, 65, 90, 91, 96, 97, 122, 123};
        for (int i = 0; i < signs.length; i++) {
            for (int k = 0; k < 4; k++) {
                Shortnumbers x = Check.filled();
                x.setByte(k, bytes[i % 8]);
                x.setShort(k, shorts[i % 8]);
                x.setSign(k, signs[i]);
                digests(x);
            }
        }
    }

    private static void digestOfOrders() {
        int[][] pairs = {{-1, 1}, {1, -1}, {1, 2}, {2, 1}, {-128, 127}, {127, -128}, {-1, -1}, {0, 0}};
        for (int[] pair : pairs) {
            for (int flags = 0; flags < 4; flags++) {
                Shortnumbers x = new Shortnumbers();
                x.setByte(0, pair[0]);
                x.setByte(1, pair[1]);
                x.setShort(0, pair[1]);
                x.setShort(1, pair[0]);
                x.setSign(0, pair[0] & 127);
                x.setSign(1, pair[1] & 127);
                x.setFlag(2, (flags & 1) == 1);
                x.setFlag(3, (flags & 2) == 2);
                digests(x);
            }
        }
    }

    private static void digestOfHouse() {
        Shortnumbers x = Check.filled();
        for (int count = 0; count < 5; count++) {
            long before = x.digest();
            x.knock();
            long afterwards = x.digest();
            CHECK.due("one more knock", afterwards - before, 31L * 31 * 31 * 31 * 31);
            digests(x);
        }
    }
}
