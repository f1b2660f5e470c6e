/** Promises 36 to 42: setFlag, parseFlag, writeFlag, join, ofFlag, compareFlags, sameFlags. */
public final class FlagsTest {
    private static final Check CHECK = new Check("FlagsTest");
    private static final boolean[] BOTH = {false, true};

    public static void main(String[] args) {
        setFlag();
        parseFlag();
        writeFlag();
        for (boolean first : BOTH) {
            for (boolean second : BOTH) {
                join(first, second);
                compareAndSame(first, second);
            }
        }
        joinOntoItself();
        ofFlag();
        refuses();
        CHECK.end();
    }

    private static boolean is(Shortnumbers x, int k) {
        return x.ofFlag(k, 0) == 1;
    }

    private static void setFlag() {
        Shortnumbers x = new Shortnumbers();
        CHECK.due("setFlag(2, true)", x.setFlag(2, true), false);
        CHECK.due("setFlag(2, true) again", x.setFlag(2, true), true);
        CHECK.due("ofFlag(2, 0)", x.ofFlag(2, 0), 1);
        CHECK.due("the others", x.ofFlag(0, 0) + x.ofFlag(1, 0) + x.ofFlag(3, 0), 0);
        CHECK.due("setFlag(2, false)", x.setFlag(2, false), true);
        CHECK.due("setFlag(2, false) again", x.setFlag(2, false), false);
        CHECK.due("ofFlag(2, 0) then", x.ofFlag(2, 0), 0);
    }

    private static void parseFlag() {
        for (int cases = 0; cases < 16; cases++) {
            StringBuilder signs = new StringBuilder("true");
            for (int place = 0; place < 4; place++) {
                if ((cases >> place & 1) == 1) {
                    signs.setCharAt(place, (char) (signs.charAt(place) - 32));
                }
            }
            tells(signs.toString(), true);
        }
        String[] none = {"", "t", "tru", "true ", " true", "trues", "truetrue", "false", "FALSE", "yes", "1",
            "trve", "urue", "tsue", "truf", "tr\u0055", "\u0014rue", "tru%", "\0\0\0\0", "eurt"};
        for (String signs : none) {
            tells(signs, false);
        }
    }

    private static void tells(String signs, boolean want) {
        for (boolean before : BOTH) {
            Shortnumbers x = Check.type(Check.withText(want ? "" : "true"), 1, signs);
            x.setFlag(3, before);
            CHECK.due("parseFlag of " + signs, x.parseFlag(3, 1), want);
            CHECK.due("the flag then", is(x, 3), want);
            CHECK.due("the others", x.ofFlag(0, 0) + x.ofFlag(1, 0) + x.ofFlag(2, 0), 0);
            CHECK.due("the text then", x.text(1), signs);
        }
    }

    private static void writeFlag() {
        Shortnumbers x = Check.filled();
        CHECK.due("writeFlag(1, 3)", x.writeFlag(1, 3), 4);
        CHECK.due("writeFlag(0, 2)", x.writeFlag(0, 2), 5);
        CHECK.due("the texts", Check.texts(x), "12|-1f|false|true");
        CHECK.due("writeFlag(1, 2)", x.writeFlag(1, 2), 4);
        CHECK.due("the texts then", Check.texts(x), "12|-1f|true|true");
        CHECK.due("the flags", x.ofFlag(0, 0) + 2 * x.ofFlag(1, 0), 2);
        Check.type(x, 0, "12345678901234567890");
        CHECK.due("writeFlag(0, 0) over 20 signs", x.writeFlag(0, 0), 5);
        CHECK.due("text(0)", x.text(0), "false");
    }

    private static void join(boolean first, boolean second) {
        boolean[] want = {first && second, first || second, first != second};
        for (int what = 0; what <= 2; what++) {
            for (boolean before : BOTH) {
                Shortnumbers x = new Shortnumbers();
                x.setFlag(0, before);
                x.setFlag(1, first);
                x.setFlag(2, second);
                String call = "join " + first + ", " + second + ", " + what;
                CHECK.due(call, x.join(0, 1, 2, what), want[what]);
                CHECK.due(call + ": the flag then", is(x, 0), want[what]);
                CHECK.due(call + ": the first then", is(x, 1), first);
                CHECK.due(call + ": the second then", is(x, 2), second);
            }
        }
    }

    private static void joinOntoItself() {
        Shortnumbers x = new Shortnumbers();
        x.setFlag(3, true);
        CHECK.due("join(3, 3, 3, 0)", x.join(3, 3, 3, 0), true);
        CHECK.due("join(3, 3, 3, 1)", x.join(3, 3, 3, 1), true);
        CHECK.due("join(3, 3, 3, 2)", x.join(3, 3, 3, 2), false);
    }

    private static void ofFlag() {
        Shortnumbers x = Check.filled();
        long before = x.digest();
        CHECK.due("ofFlag(0, 0)", x.ofFlag(0, 0), 0);
        CHECK.due("ofFlag(0, 1)", x.ofFlag(0, 1), 1237);
        CHECK.due("ofFlag(1, 0)", x.ofFlag(1, 0), 1);
        CHECK.due("ofFlag(1, 1)", x.ofFlag(1, 1), 1231);
        CHECK.due("ofFlag changes nothing", x.digest(), before);
    }

    private static void compareAndSame(boolean first, boolean second) {
        Shortnumbers x = new Shortnumbers();
        x.setFlag(3, first);
        x.setFlag(0, second);
        long before = x.digest();
        String both = first + ", " + second;
        CHECK.due("compareFlags of " + both, x.compareFlags(3, 0), Boolean.compare(first, second));
        CHECK.due("sameFlags of " + both, x.sameFlags(3, 0), first == second);
        CHECK.due("compareFlags of one", x.compareFlags(3, 3), 0);
        CHECK.due("sameFlags of one", x.sameFlags(3, 3), true);
        CHECK.due("what is asked changes nothing", x.digest(), before);
    }

    private static void refuses() {
        CHECK.refusesPlaces("setFlag(?, true)", (x, k) -> x.setFlag(k, true));
        CHECK.refusesPlaces("parseFlag(?, 2)", (x, k) -> x.parseFlag(k, 2));
        CHECK.refusesPlaces("parseFlag(0, ?)", (x, k) -> x.parseFlag(0, k));
        CHECK.refusesPlaces("writeFlag(?, 0)", (x, k) -> x.writeFlag(k, 0));
        CHECK.refusesPlaces("writeFlag(0, ?)", (x, k) -> x.writeFlag(0, k));
        for (int what = 0; what <= 3; what++) {
            int asked = what;
            CHECK.refusesPlaces("join(?, 0, 1, " + what + ")", (x, k) -> x.join(k, 0, 1, asked));
            CHECK.refusesPlaces("join(0, ?, 1, " + what + ")", (x, k) -> x.join(0, k, 1, asked));
            CHECK.refusesPlaces("join(0, 1, ?, " + what + ")", (x, k) -> x.join(0, 1, k, asked));
        }
        CHECK.refusesWhat("join(0, 1, 2, ?)", 2, (x, what) -> x.join(0, 1, 2, what));
        CHECK.refusesPlaces("ofFlag(?, 0)", (x, k) -> x.ofFlag(k, 0));
        CHECK.refusesPlaces("ofFlag(?, 2)", (x, k) -> x.ofFlag(k, 2));
        CHECK.refusesWhat("ofFlag(0, ?)", 1, (x, what) -> x.ofFlag(0, what));
        CHECK.refusesPlaces("compareFlags(?, 0)", (x, k) -> x.compareFlags(k, 0));
        CHECK.refusesPlaces("compareFlags(0, ?)", (x, k) -> x.compareFlags(0, k));
        CHECK.refusesPlaces("sameFlags(?, 0)", (x, k) -> x.sameFlags(k, 0));
        CHECK.refusesPlaces("sameFlags(0, ?)", (x, k) -> x.sameFlags(0, k));
    }
}
