import java.io.IOException;
import java.util.List;

/** The boundary cases that the document's "Description" names, a test for each sentence. */
public final class DescriptionEdgesTest {
    private static final Check CHECK = new Check("DescriptionEdgesTest");
    private static final int REFUSED = -99999;

    public static void main(String[] args) throws IOException {
        Sentences document = new Sentences(CHECK);
        document.hold("What it is", "An object is used for at most 512 calls after it has been made;",
                DescriptionEdgesTest::lastCall);
        String here = "Description";
        document.hold(here, "NONE is -1.", DescriptionEdgesTest::none);
        document.hold(here, "REFUSED is -99999; nothing changes then.", DescriptionEdgesTest::refused);
        document.hold(here, "There are four BYTES, SHORTS, SIGNS, FLAGS and TEXTS, numbered 0 to 3;",
                DescriptionEdgesTest::four);
        document.hold(here, "at first each number is 0, each SIGN the sign 0, each FLAG false, each TEXT empty.",
                DescriptionEdgesTest::atFirst);
        document.hold(here, "A SIGN is one of the 128 with the numbers 0 to 127", DescriptionEdgesTest::signs);
        document.hold(here, "48 to 57 the digits \"0\" to \"9\"", () -> ascii(48, "0123456789", 0));
        document.hold(here, "65 to 90 \"A\" to \"Z\"", () -> ascii(65, "ABCDEFGHIJKLMNOPQRSTUVWXYZ", 4));
        document.hold(here, "97 to 122 \"a\" to \"z\"", () -> ascii(97, "abcdefghijklmnopqrstuvwxyz", 5));
        document.hold(here, "43 \"+\", 45 \"-\", 35 \"#\"", DescriptionEdgesTest::plusMinusAndHash);
        document.hold(here, "A TEXT has at most 20 SIGNS.", DescriptionEdgesTest::twentySigns);
        document.hold(here, "What is asked changes nothing.", DescriptionEdgesTest::asked);
        document.end();
    }

    private static void lastCall() {
        Shortnumbers x = new Shortnumbers();
        for (int call = 1; call <= 512; call++) {
            CHECK.due("knock() as call no. " + call, x.knock(), call);
        }
        Shortnumbers sum = new Shortnumbers();
        sum.setByte(0, 1);
        for (int call = 2; call <= 512; call++) {
            CHECK.due("addBytes(1, 1, 0) as call no. " + call, sum.addBytes(1, 1, 0), (int) (byte) (call - 1));
        }
        Shortnumbers y = Check.full();
        long digest = y.digest();
        for (int call = 1; call < 400; call++) {
            CHECK.due("digest() once more", y.digest(), digest);
        }
    }

    private static void none() {
        Shortnumbers x = Check.filled();
        CHECK.due("WORTH of the sign 32", x.ofSign(3, 2), -1);
        CHECK.due("digit of the sign 32", x.digit(3, 36), -1);
        CHECK.due("digit by 37", x.digit(2, 37), -1);
    }

    private static void refused() {
        List<Check.Call> calls = List.of(
                (x, k) -> x.signOf(k, 0, 20), (x, k) -> x.signOf(k, 0, -1), (x, k) -> x.signOf(k, 1, 2),
                (x, k) -> x.parseByte(k, 0), (x, k) -> x.parseByte(k, 1), (x, k) -> x.parseByte(k, 3),
                (x, k) -> x.parseByteBy(k, 0, 36), (x, k) -> x.parseByteBy(k, 1, 36),
                (x, k) -> x.parseByteBy(k, 2, 37), (x, k) -> x.parseByteBy(k, 3, 36),
                (x, k) -> x.decodeByte(k, 0), (x, k) -> x.decodeByte(k, 1), (x, k) -> x.decodeByte(k, 3),
                (x, k) -> x.parseShort(k, 0), (x, k) -> x.parseShort(k, 1), (x, k) -> x.parseShort(k, 3),
                (x, k) -> x.parseShortBy(k, 0, 36), (x, k) -> x.parseShortBy(k, 1, 36),
                (x, k) -> x.parseShortBy(k, 2, 37), (x, k) -> x.parseShortBy(k, 3, 36),
                (x, k) -> x.decodeShort(k, 0), (x, k) -> x.decodeShort(k, 1), (x, k) -> x.decodeShort(k, 3));
        for (int i = 0; i < calls.size(); i++) {
            for (int k = 0; k < 4; k++) {
                Shortnumbers x = Check.filled();
                Check.type(x, 0, Check.TWENTY);
                Check.type(x, 1, "+-");
                Check.type(x, 2, "1");
                Check.type(x, 3, "-zzzzz");
                String before = Check.state(x);
                CHECK.due("refused call no. " + i + " of " + k, calls.get(i).on(x, k), REFUSED);
                CHECK.due("refused call no. " + i + " of " + k + ", then the state", Check.state(x), before);
            }
        }
    }

    /** What one of the four becomes, the three others do not: 0 and 3 are there as 1 and 2 are. */
    private static void four() {
        for (int k = 0; k < 4; k++) {
            Shortnumbers x = new Shortnumbers();
            x.setByte(k, 1);
            x.setShort(k, 2);
            x.setSign(k, 3);
            x.setFlag(k, true);
            x.write(k, 'm');
            StringBuilder want = new StringBuilder("knocks 0");
            for (int other = 0; other < 4; other++) {
                want.append(other == k ? " | 1 2 3 1 [m]" : " | 0 0 0 0 []");
            }
            CHECK.due("the state", Check.state(x), want.toString());
        }
        CHECK.refusesPlaces("setByte(?, 1)", (x, k) -> x.setByte(k, 1));
        CHECK.refusesPlaces("setShort(?, 1)", (x, k) -> x.setShort(k, 1));
        CHECK.refusesPlaces("setSign(?, 1)", (x, k) -> x.setSign(k, 1));
        CHECK.refusesPlaces("setFlag(?, true)", (x, k) -> x.setFlag(k, true));
        CHECK.refusesPlaces("write(?, 1)", (x, k) -> x.write(k, 1));
    }

    private static void atFirst() {
        CHECK.due("the state of a new one", Check.state(new Shortnumbers()),
                "knocks 0 | 0 0 0 0 [] | 0 0 0 0 [] | 0 0 0 0 [] | 0 0 0 0 []");
    }

    private static void signs() {
        for (int number = 0; number <= 127; number++) {
            Shortnumbers x = new Shortnumbers();
            x.setSign(0, number);
            x.write(0, number);
            CHECK.due("setSign(0, " + number + ")", x.ofSign(0, 0), number);
            CHECK.due("write(0, " + number + ")", x.text(0), String.valueOf((char) number));
        }
        CHECK.refusesWhat("setSign(0, ?)", 127, (x, number) -> x.setSign(0, number));
        CHECK.refusesWhat("write(0, ?)", 127, (x, number) -> x.write(0, number));
    }

    /** The signs from the first number on, the two neighbours that are none of them, and their kind. */
    private static void ascii(int first, String signs, int kind) {
        Shortnumbers x = new Shortnumbers();
        for (int i = -1; i <= signs.length(); i++) {
            boolean isOne = i >= 0 && i < signs.length();
            x.setSign(1, first + i);
            CHECK.due("isSign of " + (first + i), x.isSign(1, kind), isOne);
            if (isOne) {
                x.clear(2);
                x.write(2, first + i);
                CHECK.due("text of " + (first + i), x.text(2), signs.substring(i, i + 1));
            }
        }
    }

    private static void plusMinusAndHash() {
        Shortnumbers x = new Shortnumbers();
        x.write(0, 45);
        x.write(0, 35);
        x.write(0, 49);
        CHECK.due("text(0)", x.text(0), "-#1");
        CHECK.due("decodeByte of -#1", x.decodeByte(0, 0), -1);
        x.clear(0);
        x.write(0, 43);
        x.write(0, 50);
        CHECK.due("text(0)", x.text(0), "+2");
        CHECK.due("parseByte of +2", x.parseByte(0, 0), 2);
        for (int beside : new int[] {42, 44, 46}) {
            x.clear(1);
            x.write(1, beside);
            x.write(1, 50);
            CHECK.due("parseByte with the sign " + beside + " ahead", x.parseByte(0, 1), REFUSED);
        }
        for (int beside : new int[] {34, 36}) {
            x.clear(1);
            x.write(1, beside);
            x.write(1, 50);
            CHECK.due("decodeByte with the sign " + beside + " ahead", x.decodeByte(0, 1), REFUSED);
        }
    }

    private static void twentySigns() {
        for (int k = 0; k < 4; k++) {
            Shortnumbers x = Check.type(Check.filled(), k, "1234567890123456789");
            CHECK.due("write as no. 20", x.write(k, 48), 20);
            CHECK.due("text of 20", x.text(k), Check.TWENTY);
            int text = k;
            CHECK.refuses("write as no. 21", x, IllegalStateException.class, (y, sign) -> y.write(text, sign), 48);
            CHECK.due("clear of 20", x.clear(k), 20);
            CHECK.due("write as no. 1 then", x.write(k, 49), 1);
        }
    }

    private static void asked() {
        List<Shortnumbers> objects = List.of(new Shortnumbers(), Check.filled(), Check.full());
        for (Shortnumbers x : objects) {
            String before = Check.state(x);
            for (int k = 0; k < 4; k++) {
                asks(x, "text", before, (y, n) -> y.text(n), k);
                asks(x, "unsignedByte", before, (y, n) -> y.unsignedByte(n), k);
                asks(x, "unsignedShort", before, (y, n) -> y.unsignedShort(n), k);
                for (int i = 0; i < 7; i++) {
                    asksAt(x, before, k, i);
                }
                asks(x, "digit by 16", before, (y, n) -> y.digit(n, 16), k);
                asks(x, "digit by 37", before, (y, n) -> y.digit(n, 37), k);
            }
            for (int what = 0; what <= 4; what++) {
                asks(x, "house", before, (y, n) -> y.house(n), what);
            }
            asks(x, "isSound", before, (y, n) -> y.isSound(), 0);
            asks(x, "digest", before, (y, n) -> y.digest(), 0);
        }
    }

    /** All that is asked with two numbers; a what that a method does not know is refused, as it is due. */
    private static void asksAt(Shortnumbers x, String before, int k, int second) {
        asks(x, "ofByte", before, (y, n) -> y.ofByte(n, second), k);
        asks(x, "ofShort", before, (y, n) -> y.ofShort(n, second), k);
        asks(x, "ofSign", before, (y, n) -> y.ofSign(n, second), k);
        asks(x, "isSign", before, (y, n) -> y.isSign(n, second), k);
        asks(x, "ofFlag", before, (y, n) -> y.ofFlag(n, second), k);
        asks(x, "compareBytes", before, (y, n) -> y.compareBytes(n, second, false), k);
        asks(x, "compareBytes", before, (y, n) -> y.compareBytes(n, second, true), k);
        asks(x, "sameBytes", before, (y, n) -> y.sameBytes(n, second), k);
        asks(x, "compareShorts", before, (y, n) -> y.compareShorts(n, second, false), k);
        asks(x, "compareShorts", before, (y, n) -> y.compareShorts(n, second, true), k);
        asks(x, "sameShorts", before, (y, n) -> y.sameShorts(n, second), k);
        asks(x, "compareSigns", before, (y, n) -> y.compareSigns(n, second), k);
        asks(x, "compareFlags", before, (y, n) -> y.compareFlags(n, second), k);
        asks(x, "sameFlags", before, (y, n) -> y.sameFlags(n, second), k);
    }

    private static void asks(Shortnumbers x, String call, String before, Check.Call asking, int number) {
        Object first = Check.answer(x, asking, number);
        CHECK.due(call + " of " + number + ", then the state", Check.state(x), before);
        CHECK.due(call + " of " + number + " once more", Check.answer(x, asking, number), first);
    }
}
