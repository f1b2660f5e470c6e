import java.io.IOException;

/** The boundary cases of flags in "3. Signs and flags" and of the promises 36 to 42. */
public final class FlagEdgesTest {
    private static final Check CHECK = new Check("FlagEdgesTest");
    private static final boolean[] BOTH = {false, true};

    public static void main(String[] args) throws IOException {
        Sentences document = new Sentences(CHECK);
        String here = "3. Signs and flags";
        document.hold(here, "Of a FLAG: true counts as more than false;", FlagEdgesTest::more);
        document.hold(here, "its CODE is 1231 if it is true, 1237 if not.", FlagEdgesTest::code);
        document.hold(here, "A TEXT tells true, if it is \"true\" with great or small letters, any;",
                FlagEdgesTest::tellsTrue);
        document.hold(here, "otherwise false.", FlagEdgesTest::tellsFalse);

        document.hold(36, "Tells a FLAG.", FlagEdgesTest::setFlag);
        document.hold(36, "Returns what it was.", FlagEdgesTest::itWas);
        document.hold(37, "A FLAG becomes what a TEXT tells.", FlagEdgesTest::parseFlag);
        document.hold(38, "A TEXT becomes \"true\" or \"false\".", FlagEdgesTest::writeFlag);
        document.hold(38, "Returns how many signs it has then.", FlagEdgesTest::signsOfFlag);
        document.hold(39, "0 and, 1 or, 2 either-or (just one of both)", FlagEdgesTest::join);
        document.hold(39, "A FLAG is made of two.", FlagEdgesTest::joinOntoItself);
        document.hold(40, "0 1 if it is true, otherwise 0, 1 its CODE", FlagEdgesTest::ofFlag);
        document.hold(41, "Compares two.", FlagEdgesTest::more);
        document.hold(42, "Returns whether both are alike.", FlagEdgesTest::alike);
        document.end(36, 37, 38, 39, 40, 41, 42);
    }

    private static Shortnumbers with(int a, boolean first, int b, boolean second) {
        Shortnumbers x = new Shortnumbers();
        x.setFlag(a, first);
        x.setFlag(b, second);
        return x;
    }

    private static void more() {
        for (int a = 0; a < 4; a++) {
            for (int b = 0; b < 4; b++) {
                if (a != b) {
                    CHECK.due("true, false", with(a, true, b, false).compareFlags(a, b), 1);
                    CHECK.due("false, true", with(a, false, b, true).compareFlags(a, b), -1);
                    CHECK.due("true, true", with(a, true, b, true).compareFlags(a, b), 0);
                    CHECK.due("false, false", with(a, false, b, false).compareFlags(a, b), 0);
                }
                CHECK.due("true and itself", with(a, true, a, true).compareFlags(a, a), 0);
            }
        }
    }

    private static void code() {
        for (int k = 0; k < 4; k++) {
            Shortnumbers x = new Shortnumbers();
            CHECK.due("CODE of false", x.ofFlag(k, 1), 1237);
            x.setFlag(k, true);
            CHECK.due("CODE of true", x.ofFlag(k, 1), 1231);
            x.setFlag(k, false);
            CHECK.due("CODE of false again", x.ofFlag(k, 1), 1237);
        }
    }

    private static void tells(String signs, boolean want) {
        for (boolean before : BOTH) {
            Shortnumbers x = Check.type(Check.filled(), 0, signs);
            x.setFlag(3, before);
            Shortnumbers like = Check.type(Check.filled(), 0, signs);
            like.setFlag(3, want);
            CHECK.leaves("parseFlag of \"" + signs + "\"", x.parseFlag(3, 0), want, x, like);
        }
    }

    private static void tellsTrue() {
        for (char t : "tT".toCharArray()) {
            for (char r : "rR".toCharArray()) {
                for (char u : "uU".toCharArray()) {
                    for (char e : "eE".toCharArray()) {
                        tells("" + t + r + u + e, true);
                    }
                }
            }
        }
    }

    private static void tellsFalse() {
        String[] others = {"", "t", "tr", "tru", "TRU", "rue", "truee", "ttrue", "true ", " true", "true\0", "\0true",
            "truetrue", "tru\0", "tru e", "false", "FALSE", "1", "yes", "0", "1231", "eurt", "true                ",
            "truetruetruetruetrue"};
        for (String signs : others) {
            tells(signs, false);
        }
        for (int place = 0; place < 4; place++) {
            for (int sign = 0; sign <= 127; sign++) {
                char right = "true".charAt(place);
                if (sign != right && sign != right - 32) {
                    tells("true".substring(0, place) + (char) sign + "true".substring(place + 1), false);
                }
            }
        }
    }

    private static void setFlag() {
        for (int k = 0; k < 4; k++) {
            Shortnumbers x = new Shortnumbers();
            x.setFlag(k, true);
            for (int other = 0; other < 4; other++) {
                CHECK.due("FLAG " + other + " after setFlag(" + k + ", true)", x.ofFlag(other, 0), other == k ? 1 : 0);
            }
            x.setFlag(k, false);
            CHECK.due("how many are true then", x.house(2), 0);
        }
    }

    private static void itWas() {
        boolean[] run = {true, true, false, false, true, false};
        for (int k = 0; k < 4; k++) {
            Shortnumbers x = new Shortnumbers();
            boolean before = false;
            for (boolean is : run) {
                CHECK.due("setFlag(" + k + ", " + is + ")", x.setFlag(k, is), before);
                before = is;
            }
        }
    }

    private static void parseFlag() {
        Shortnumbers x = Check.filled();
        CHECK.due("parseFlag(0, 2)", x.parseFlag(0, 2), true);
        CHECK.due("parseFlag(1, 0)", x.parseFlag(1, 0), false);
        CHECK.due("ofFlag(0, 0)", x.ofFlag(0, 0), 1);
        CHECK.due("ofFlag(1, 0)", x.ofFlag(1, 0), 0);
        x.clear(2);
        CHECK.due("parseFlag of an emptied one", x.parseFlag(0, 2), false);
        CHECK.due("ofFlag(0, 0) then", x.ofFlag(0, 0), 0);
    }

    private static void writeFlag() {
        for (boolean is : BOTH) {
            for (String before : new String[] {"", "true", "false", Check.TWENTY}) {
                Shortnumbers x = Check.type(Check.filled(), 3, before);
                x.setFlag(0, is);
                Shortnumbers like = Check.type(Check.filled(), 3, is ? "true" : "false");
                like.setFlag(0, is);
                CHECK.leaves("writeFlag over \"" + before + "\"", x.writeFlag(0, 3), is ? 4 : 5, x, like);
                CHECK.due("parseFlag then", x.parseFlag(1, 3), is);
            }
        }
    }

    private static void signsOfFlag() {
        Shortnumbers x = Check.full();
        CHECK.due("writeFlag of true", x.writeFlag(3, 0), 4);
        CHECK.due("clear then", x.clear(0), 4);
        x.setFlag(3, false);
        CHECK.due("writeFlag of false", x.writeFlag(3, 0), 5);
        CHECK.due("clear then", x.clear(0), 5);
    }

    private static void join() {
        boolean[][] rows = {{false, false, false, false, false}, {false, true, false, true, true},
            {true, false, false, true, true}, {true, true, true, true, false}};
        for (boolean[] row : rows) {
            for (int what = 0; what <= 2; what++) {
                for (boolean before : BOTH) {
                    Shortnumbers x = with(1, row[0], 3, row[1]);
                    x.setFlag(0, before);
                    Shortnumbers like = with(1, row[0], 3, row[1]);
                    like.setFlag(0, row[2 + what]);
                    CHECK.leaves("join of " + row[0] + ", " + row[1] + " by " + what, x.join(0, 1, 3, what),
                            row[2 + what], x, like);
                }
            }
        }
    }

    private static void joinOntoItself() {
        for (boolean is : BOTH) {
            for (int k = 0; k < 4; k++) {
                CHECK.due(is + " and " + is, with(k, is, k, is).join(k, k, k, 0), is);
                CHECK.due(is + " or " + is, with(k, is, k, is).join(k, k, k, 1), is);
                CHECK.due("either " + is + " or " + is, with(k, is, k, is).join(k, k, k, 2), false);
            }
        }
        CHECK.due("onto the first", with(0, true, 1, false).join(0, 0, 1, 0), false);
        CHECK.due("onto the second", with(0, true, 1, false).join(1, 0, 1, 1), true);
    }

    private static void ofFlag() {
        for (int k = 0; k < 4; k++) {
            CHECK.due("0 of true", with(k, true, k, true).ofFlag(k, 0), 1);
            CHECK.due("1 of true", with(k, true, k, true).ofFlag(k, 1), 1231);
            CHECK.due("0 of false", new Shortnumbers().ofFlag(k, 0), 0);
            CHECK.due("1 of false", new Shortnumbers().ofFlag(k, 1), 1237);
        }
    }

    private static void alike() {
        for (boolean first : BOTH) {
            for (boolean second : BOTH) {
                CHECK.due("same " + first + ", " + second, with(0, first, 3, second).sameFlags(0, 3), first == second);
                CHECK.due("same " + second + ", " + first, with(0, first, 3, second).sameFlags(3, 0), first == second);
            }
            CHECK.due("same " + first + " and itself", with(2, first, 2, first).sameFlags(2, 2), true);
        }
    }
}
