/** Promises 1 to 5: a new object, write, clear, text, signOf. */
public final class TextsTest {
    private static final Check CHECK = new Check("TextsTest");

    public static void main(String[] args) {
        newObject();
        write();
        writeRefuses();
        clear();
        text();
        signOf();
        CHECK.end();
    }

    private static void newObject() {
        Shortnumbers x = new Shortnumbers();
        for (int k = 0; k < 4; k++) {
            CHECK.due("new: ofByte", x.ofByte(k, 0), 0);
            CHECK.due("new: ofShort", x.ofShort(k, 0), 0);
            CHECK.due("new: ofSign", x.ofSign(k, 0), 0);
            CHECK.due("new: ofFlag", x.ofFlag(k, 0), 0);
            CHECK.due("new: text", x.text(k), "");
        }
        CHECK.due("new: house(0)", x.house(0), 0);
        x.setByte(0, 5);
        x.write(0, 65);
        x.knock();
        CHECK.due("another object is none of the first one",
                new Shortnumbers().digest() == x.digest(), false);
    }

    private static void write() {
        Shortnumbers x = new Shortnumbers();
        StringBuilder want = new StringBuilder();
        int[] signs = {0, 127, 65, 32, 10};
        for (int count = 1; count <= 20; count++) {
            int sign = signs[count % signs.length];
            want.append((char) sign);
            CHECK.due("write no. " + count, x.write(2, sign), count);
            CHECK.due("text after write no. " + count, x.text(2), want.toString());
        }
        CHECK.due("the other texts", x.text(0) + x.text(1) + x.text(3), "");
        for (int sign = 0; sign <= 127; sign++) {
            Shortnumbers y = new Shortnumbers();
            CHECK.due("write(3, " + sign + ")", y.write(3, sign), 1);
            CHECK.due("text(3)", y.text(3), String.valueOf((char) sign));
        }
    }

    private static void writeRefuses() {
        Class<?> state = IllegalStateException.class;
        Class<?> argument = IllegalArgumentException.class;
        Class<?> index = IndexOutOfBoundsException.class;
        CHECK.refusesPlaces("write(?, 65)", (x, k) -> x.write(k, 65));
        CHECK.refusesPlaces("write(?, 128)", (x, k) -> x.write(k, 128));
        CHECK.refusesWhat("write(0, ?)", 127, (x, sign) -> x.write(0, sign));
        Shortnumbers full = Check.withText("12345678901234567890");
        CHECK.refuses("write(0, ?) when full", full, state, (x, sign) -> x.write(0, sign), 65);
        CHECK.refuses("write(0, ?) when full", full, state, (x, sign) -> x.write(0, sign), 0);
        CHECK.refuses("write(0, ?) when full", full, argument, (x, sign) -> x.write(0, sign), 128);
        CHECK.refuses("write(0, ?) when full", full, argument, (x, sign) -> x.write(0, sign), -1);
        CHECK.refuses("write(?, 128) when full", full, index, (x, k) -> x.write(k, 128), 4);
        CHECK.due("write to another text", full.write(1, 65), 1);
    }

    private static void clear() {
        Shortnumbers x = Check.withText("12345678901234567890");
        Check.type(x, 1, "abc");
        CHECK.due("clear(0)", x.clear(0), 20);
        CHECK.due("clear(0) again", x.clear(0), 0);
        CHECK.due("text(0)", x.text(0), "");
        CHECK.due("text(1)", x.text(1), "abc");
        CHECK.due("write(0, 90)", x.write(0, 90), 1);
        CHECK.due("text(0) then", x.text(0), "Z");
        CHECK.due("clear(1)", x.clear(1), 3);
        CHECK.refusesPlaces("clear(?)", (y, k) -> y.clear(k));
    }

    private static void text() {
        Shortnumbers x = Check.filled();
        CHECK.due("texts", Check.texts(x), "12|-1f|true|x");
        long before = x.digest();
        x.text(0);
        CHECK.due("text changes nothing", x.digest(), before);
        String kept = x.text(0);
        x.write(0, 65);
        CHECK.due("a text that was told stays", kept, "12");
        CHECK.refusesPlaces("text(?)", (y, k) -> y.text(k));
    }

    private static void signOf() {
        Shortnumbers x = Check.filled();
        CHECK.due("signOf(3, 1, 0)", x.signOf(3, 1, 0), 45);
        CHECK.due("ofSign(3, 0)", x.ofSign(3, 0), 45);
        CHECK.due("signOf(0, 1, 2)", x.signOf(0, 1, 2), 102);
        CHECK.due("ofSign(0, 0)", x.ofSign(0, 0), 102);
        CHECK.due("ofSign(1, 0)", x.ofSign(1, 0), (int) 'z');
        CHECK.due("text(1)", x.text(1), "-1f");
        for (int place : new int[] {3, -1, 20, Integer.MIN_VALUE, Integer.MAX_VALUE}) {
            long before = x.digest();
            CHECK.due("signOf(0, 1, " + place + ")", x.signOf(0, 1, place), -99999);
            CHECK.due("digest() then", x.digest(), before);
        }
        x.clear(1);
        CHECK.due("signOf of a cleared text", x.signOf(0, 1, 0), -99999);
        CHECK.due("ofSign(0, 0) then", x.ofSign(0, 0), 102);
        CHECK.refusesPlaces("signOf(?, 0, 0)", (y, k) -> y.signOf(k, 0, 0));
        CHECK.refusesPlaces("signOf(0, ?, 0)", (y, k) -> y.signOf(0, k, 0));
        CHECK.refusesPlaces("signOf(?, 0, 99)", (y, k) -> y.signOf(k, 0, 99));
        CHECK.refusesPlaces("signOf(0, ?, 99)", (y, k) -> y.signOf(0, k, 99));
    }
}
