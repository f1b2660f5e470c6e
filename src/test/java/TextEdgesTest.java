import java.io.IOException;

/** The boundary cases of the promises 1 to 5, a test for each sentence. */
public final class TextEdgesTest {
    private static final Check CHECK = new Check("TextEdgesTest");
    private static final int REFUSED = -99999;

    public static void main(String[] args) throws IOException {
        Sentences document = new Sentences(CHECK);
        document.hold(1, "Creates zeros, signs 0, flags that are false, and empty texts.", TextEdgesTest::created);
        document.hold(2, "Writes a sign behind a TEXT.", TextEdgesTest::behind);
        document.hold(2, "Returns how many it has then.", TextEdgesTest::howMany);
        document.hold(2, "if it has 20", TextEdgesTest::hasTwenty);
        document.hold(3, "Empties a TEXT.", TextEdgesTest::empties);
        document.hold(3, "Returns how many signs it had.", TextEdgesTest::howManyItHad);
        document.hold(4, "Returns it.", TextEdgesTest::told);
        document.hold(5, "A SIGN becomes the sign in a place of a TEXT.", TextEdgesTest::signOfPlace);
        document.hold(5, "the place, from 0 on", TextEdgesTest::firstPlace);
        document.hold(5, "Returns the number of that sign;", TextEdgesTest::numberOfSign);
        document.hold(5, "REFUSED, if there is no such place.", TextEdgesTest::noSuchPlace);
        document.end(1, 2, 3, 4, 5);
    }

    private static void created() {
        Check.full().knock();
        Shortnumbers x = new Shortnumbers();
        for (int k = 0; k < 4; k++) {
            CHECK.due("ofByte", x.ofByte(k, 0), 0);
            CHECK.due("ofShort", x.ofShort(k, 0), 0);
            CHECK.due("ofSign", x.ofSign(k, 0), 0);
            CHECK.due("ofFlag", x.ofFlag(k, 1), 1237);
            CHECK.due("text", x.text(k), "");
            CHECK.due("signOf", x.signOf(k, k, 0), REFUSED);
            CHECK.due("parseByte", x.parseByte(k, k), REFUSED);
            CHECK.due("clear", x.clear(k), 0);
        }
        CHECK.due("house(0)", x.house(0), 0);
        CHECK.due("house(1)", x.house(1), 0);
        CHECK.due("house(2)", x.house(2), 0);
    }

    private static void behind() {
        Shortnumbers x = new Shortnumbers();
        StringBuilder want = new StringBuilder();
        for (int count = 1; count <= 20; count++) {
            int sign = count == 1 ? 127 : count == 20 ? 0 : 64 + count;
            want.append((char) sign);
            x.write(1, sign);
            CHECK.due("the texts after no. " + count, Check.texts(x), "|" + want + "||");
        }
    }

    private static void howMany() {
        for (int k = 0; k < 4; k++) {
            Shortnumbers x = new Shortnumbers();
            for (int count = 1; count <= 20; count++) {
                CHECK.due("write no. " + count, x.write(k, 0), count);
            }
        }
        Shortnumbers x = Check.filled();
        CHECK.due("write behind 12", x.write(0, 65), 3);
        CHECK.due("writeFlag", x.writeFlag(0, 0), 5);
        CHECK.due("write behind false", x.write(0, 65), 6);
    }

    private static void hasTwenty() {
        Shortnumbers x = Check.full();
        for (int k = 0; k < 4; k++) {
            for (int sign : new int[] {0, 65, 127}) {
                int text = k;
                CHECK.refuses("write of a full one", x, IllegalStateException.class, (y, n) -> y.write(text, n), sign);
            }
        }
        x.clear(2);
        CHECK.due("write of the cleared one", x.write(2, 65), 1);
        CHECK.refuses("write of another", x, IllegalStateException.class, (y, n) -> y.write(1, n), 65);
        x.writeByte(0, 1, 2);
        CHECK.due("write of the one that was written over", x.write(1, 65), 10);
        CHECK.due("write of 19", Check.type(Check.full(), 3, "1234567890123456789").write(3, 65), 20);
    }

    private static void empties() {
        for (int k = 0; k < 4; k++) {
            Shortnumbers x = Check.full();
            x.clear(k);
            Shortnumbers like = Check.full();
            for (int other = 0; other < 4; other++) {
                CHECK.due("text " + other + " without " + k, x.text(other), other == k ? "" : like.text(other));
            }
            CHECK.due("clear of an empty one", x.clear(k), 0);
            x.write(k, 33);
            CHECK.due("the old signs are gone", x.text(k), "!");
            CHECK.due("the old place is gone", x.signOf(0, k, 1), REFUSED);
        }
    }

    private static void howManyItHad() {
        for (int signs = 0; signs <= 20; signs++) {
            Shortnumbers x = Check.type(Check.filled(), 2, Check.TWENTY.substring(0, signs));
            CHECK.due("clear of " + signs, x.clear(2), signs);
            CHECK.due("clear once more", x.clear(2), 0);
        }
    }

    private static void told() {
        Shortnumbers x = new Shortnumbers();
        CHECK.due("an empty one", x.text(3), "");
        for (int signs = 1; signs <= 20; signs++) {
            x.write(3, Check.TWENTY.charAt(signs - 1));
            CHECK.due("one of " + signs, x.text(3), Check.TWENTY.substring(0, signs));
        }
        x.clear(3);
        CHECK.due("a cleared one", x.text(3), "");
        x.write(3, 0);
        x.write(3, 127);
        x.write(3, 0);
        CHECK.due("one with the signs 0 and 127", x.text(3), "\0\177\0");
    }

    private static void signOfPlace() {
        for (int place = 0; place < 20; place++) {
            Shortnumbers x = Check.full();
            Shortnumbers like = Check.full();
            like.setSign(2, Check.TWENTY.charAt(place));
            int want = Check.TWENTY.charAt(place);
            CHECK.leaves("signOf(2, 0, " + place + ")", x.signOf(2, 0, place), want, x, like);
        }
    }

    private static void firstPlace() {
        Shortnumbers x = Check.withText("ab");
        CHECK.due("place 0", x.signOf(0, 0, 0), 97);
        CHECK.due("place 1", x.signOf(0, 0, 1), 98);
        CHECK.due("place -1", x.signOf(0, 0, -1), REFUSED);
        CHECK.due("the SIGN then", x.ofSign(0, 0), 98);
    }

    private static void numberOfSign() {
        for (int sign = 0; sign <= 127; sign++) {
            Shortnumbers x = new Shortnumbers();
            x.setSign(1, 64);
            x.write(2, sign);
            CHECK.due("signOf of the sign " + sign, x.signOf(1, 2, 0), sign);
            CHECK.due("ofSign then", x.ofSign(1, 0), sign);
        }
    }

    private static void noSuchPlace() {
        for (int signs = 0; signs <= 20; signs++) {
            for (int place : new int[] {Integer.MIN_VALUE, -20, -1, signs, signs + 1, 20, 21, Integer.MAX_VALUE}) {
                Shortnumbers x = Check.type(Check.filled(), 1, Check.TWENTY.substring(0, signs));
                String before = Check.state(x);
                CHECK.due("place " + place + " of " + signs, x.signOf(3, 1, place), REFUSED);
                CHECK.due("place " + place + " of " + signs + ", then the state", Check.state(x), before);
            }
            if (signs > 0) {
                Shortnumbers x = Check.type(Check.filled(), 1, Check.TWENTY.substring(0, signs));
                int last = Check.TWENTY.charAt(signs - 1);
                CHECK.due("the last place of " + signs, x.signOf(3, 1, signs - 1), last);
                x.clear(1);
                CHECK.due("a place of the cleared one", x.signOf(3, 1, signs - 1), REFUSED);
            }
        }
        Shortnumbers x = Check.full();
        x.writeByte(3, 0, 10);
        CHECK.due("the place behind what was written over", x.signOf(0, 0, 1), REFUSED);
        x.writeFlag(0, 0);
        CHECK.due("the place behind true", x.signOf(0, 0, 4), REFUSED);
        CHECK.due("the last place of true", x.signOf(0, 0, 3), 101);
    }
}
