import java.io.IOException;

/** The boundary cases of signs in "3. Signs and flags" and of the promises 29 to 35. */
public final class SignEdgesTest {
    private static final Check CHECK = new Check("SignEdgesTest");
    private static final int[] NO_BASES = {1, 37, 0, -1, -2, -36, 38, 100, Integer.MIN_VALUE, Integer.MAX_VALUE};
    private static final int DIGIT = 0;
    private static final int LETTER = 1;
    private static final int ONE_OF_BOTH = 2;
    private static final int WHITE = 3;
    private static final int GREAT = 4;
    private static final int SMALL = 5;
    private static final int BLANK = 6;

    public static void main(String[] args) throws IOException {
        Sentences document = new Sentences(CHECK);
        String here = "3. Signs and flags";
        document.hold(here, "Letters are \"A\" to \"Z\" (great) and \"a\" to \"z\" (small).", SignEdgesTest::letters);
        document.hold(here, "A great letter has a small one, and the other way round (32 apart);",
                SignEdgesTest::apart);
        document.hold(here, "all other SIGNS have themselves as both.", SignEdgesTest::themselves);
        document.hold(here, "WHITE are the SIGNS 9 to 13 and 28 to 32;", SignEdgesTest::white);
        document.hold(here, "BLANK is the SIGN 32.", SignEdgesTest::blank);
        document.hold(here, "WORTH of a SIGN: of a digit 0 to 9,", SignEdgesTest::worthOfDigits);
        document.hold(here, "of a letter 10 to 35,", SignEdgesTest::worthOfLetters);
        document.hold(here, "otherwise NONE.", SignEdgesTest::worthOfOthers);

        document.hold(29, "A SIGN becomes the one with a number.", SignEdgesTest::setSign);
        document.hold(29, "Returns the number of the one before.", SignEdgesTest::signBefore);
        document.hold(30, "3 its number, TURNED as if it were a SHORT (WITHOUT A SIGN)", SignEdgesTest::turned);
        document.hold(30, "0 its number, 1 its code (its number), 2 WORTH", SignEdgesTest::ofSign);
        document.hold(31, "0 a digit, 1 a letter, 2 one of both, 3 WHITE, 4 a great letter, 5 a small letter, 6 BLANK",
                SignEdgesTest::kinds);
        document.hold(32, "A SIGN becomes its great (or small) letter.", SignEdgesTest::toCase);
        document.hold(33, "Returns which digit of the BASE it is;", SignEdgesTest::digitBelowTheBase);
        document.hold(33, "NONE, if it is none,", SignEdgesTest::digitOfNoDigit);
        document.hold(33, "or that is no BASE.", SignEdgesTest::digitByNoBase);
        document.hold(34, "A SIGN becomes the sign of a digit, with a small letter.", SignEdgesTest::forDigit);
        document.hold(34, "Returns its number then: 0 (the sign 0), if that is no BASE,",
                SignEdgesTest::forDigitByNoBase);
        document.hold(34, "or there is no such digit of it.", SignEdgesTest::forNoDigit);
        document.hold(35, "Compares two by their numbers.", SignEdgesTest::compareSigns);
        document.end(29, 30, 31, 32, 33, 34, 35);
    }

    private static Shortnumbers with(int sign) {
        Shortnumbers x = new Shortnumbers();
        x.setSign(2, sign);
        return x;
    }

    /** Just the signs of these ranges (first, last, first, last, ..) are of that kind, from 0 to 127. */
    private static void isOnly(int kind, int... ranges) {
        for (int sign = 0; sign <= 127; sign++) {
            boolean want = false;
            for (int i = 0; i < ranges.length; i += 2) {
                want |= sign >= ranges[i] && sign <= ranges[i + 1];
            }
            CHECK.due("isSign " + kind + " of " + sign, with(sign).isSign(2, kind), want);
        }
    }

    private static void letters() {
        isOnly(LETTER, 65, 90, 97, 122);
        isOnly(GREAT, 65, 90);
        isOnly(SMALL, 97, 122);
    }

    private static void apart() {
        for (int great : new int[] {65, 66, 77, 89, 90}) {
            CHECK.due("small of " + great, with(great).toCase(2, false), great + 32);
            CHECK.due("great of " + great, with(great).toCase(2, true), great);
            CHECK.due("great of " + (great + 32), with(great + 32).toCase(2, true), great);
            CHECK.due("small of " + (great + 32), with(great + 32).toCase(2, false), great + 32);
        }
    }

    private static void themselves() {
        for (int sign = 0; sign <= 127; sign++) {
            if (sign < 65 || sign > 90 && sign < 97 || sign > 122) {
                CHECK.due("great of " + sign, with(sign).toCase(2, true), sign);
                CHECK.due("small of " + sign, with(sign).toCase(2, false), sign);
            }
        }
    }

    private static void white() {
        for (int sign : new int[] {9, 10, 11, 12, 13, 28, 29, 30, 31, 32}) {
            CHECK.due("WHITE " + sign, with(sign).isSign(2, WHITE), true);
        }
        for (int sign : new int[] {0, 8, 14, 15, 26, 27, 33, 34, 127}) {
            CHECK.due("WHITE " + sign, with(sign).isSign(2, WHITE), false);
        }
        isOnly(WHITE, 9, 13, 28, 32);
    }

    private static void blank() {
        CHECK.due("BLANK 31", with(31).isSign(2, BLANK), false);
        CHECK.due("BLANK 32", with(32).isSign(2, BLANK), true);
        CHECK.due("BLANK 33", with(33).isSign(2, BLANK), false);
        isOnly(BLANK, 32, 32);
    }

    private static void worthOfDigits() {
        for (int worth = 0; worth <= 9; worth++) {
            CHECK.due("WORTH of " + (48 + worth), with(48 + worth).ofSign(2, 2), worth);
        }
    }

    private static void worthOfLetters() {
        for (int worth = 10; worth <= 35; worth++) {
            CHECK.due("WORTH of " + (55 + worth), with(55 + worth).ofSign(2, 2), worth);
            CHECK.due("WORTH of " + (87 + worth), with(87 + worth).ofSign(2, 2), worth);
        }
    }

    private static void worthOfOthers() {
        for (int sign : new int[] {0, 32, 35, 43, 45, 47, 58, 64, 91, 96, 123, 127}) {
            CHECK.due("WORTH of " + sign, with(sign).ofSign(2, 2), -1);
        }
    }

    private static void setSign() {
        for (int number : new int[] {0, 1, 64, 126, 127}) {
            for (int k = 0; k < 4; k++) {
                Shortnumbers x = Check.filled();
                x.setSign(k, number);
                for (int other = 0; other < 4; other++) {
                    int want = other == k ? number : Check.filled().ofSign(other, 0);
                    CHECK.due("SIGN " + other + " after setSign(" + k + ", " + number + ")", x.ofSign(other, 0), want);
                }
            }
        }
    }

    private static void signBefore() {
        Shortnumbers x = new Shortnumbers();
        CHECK.due("setSign(0, 127)", x.setSign(0, 127), 0);
        CHECK.due("setSign(0, 127) again", x.setSign(0, 127), 127);
        CHECK.due("setSign(0, 0)", x.setSign(0, 0), 127);
        CHECK.due("setSign(0, 65)", x.setSign(0, 65), 0);
        CHECK.due("setSign(3, 66)", x.setSign(3, 66), 0);
        x.toCase(0, false);
        CHECK.due("setSign(0, 1) after toCase", x.setSign(0, 1), 97);
        x.forDigit(0, 9, 10);
        CHECK.due("setSign(0, 1) after forDigit", x.setSign(0, 1), 57);
    }

    private static void turned() {
        int[][] rows = {{0, 0}, {1, 256}, {64, 16384}, {126, 32256}, {127, 32512}};
        for (int[] row : rows) {
            CHECK.due("ofSign 3 of " + row[0], with(row[0]).ofSign(2, 3), row[1]);
        }
    }

    private static void ofSign() {
        int[][] rows = {{0, 0, -1}, {127, 127, -1}, {48, 48, 0}, {57, 57, 9}, {65, 65, 10}, {122, 122, 35}};
        for (int[] row : rows) {
            for (int what = 0; what <= 2; what++) {
                CHECK.due("ofSign " + what + " of " + row[0], with(row[0]).ofSign(2, what), row[what]);
            }
        }
    }

    private static void kinds() {
        isOnly(DIGIT, 48, 57);
        isOnly(LETTER, 65, 90, 97, 122);
        isOnly(ONE_OF_BOTH, 48, 57, 65, 90, 97, 122);
        isOnly(WHITE, 9, 13, 28, 32);
        isOnly(GREAT, 65, 90);
        isOnly(SMALL, 97, 122);
        isOnly(BLANK, 32, 32);
    }

    private static void toCase() {
        int[][] rows = {{64, 64, 64}, {65, 65, 97}, {90, 90, 122}, {91, 91, 91}, {96, 96, 96}, {97, 65, 97},
            {122, 90, 122}, {123, 123, 123}, {0, 0, 0}, {127, 127, 127}, {32, 32, 32}, {48, 48, 48}, {57, 57, 57}};
        for (int[] row : rows) {
            for (int k = 0; k < 4; k++) {
                cased(k, row[0], true, row[1]);
                cased(k, row[0], false, row[2]);
            }
        }
    }

    private static void cased(int k, int sign, boolean isGreat, int want) {
        Shortnumbers x = Check.filled();
        x.setSign(k, sign);
        Shortnumbers like = Check.filled();
        like.setSign(k, want);
        CHECK.leaves("toCase of " + sign, x.toCase(k, isGreat), want, x, like);
    }

    private static void digitBelowTheBase() {
        String small = "0123456789abcdefghijklmnopqrstuvwxyz";
        for (int base = 2; base <= 36; base++) {
            CHECK.due("digit of 0 by " + base, with('0').digit(2, base), 0);
            CHECK.due("the last digit by " + base, with(small.charAt(base - 1)).digit(2, base), base - 1);
            int great = small.toUpperCase().charAt(base - 1);
            CHECK.due("the last digit, great, by " + base, with(great).digit(2, base), base - 1);
            if (base < 36) {
                CHECK.due("the next digit by " + base, with(small.charAt(base)).digit(2, base), -1);
                int next = small.toUpperCase().charAt(base);
                CHECK.due("the next digit, great, by " + base, with(next).digit(2, base), -1);
            }
        }
    }

    private static void digitOfNoDigit() {
        for (int sign : new int[] {0, 32, 35, 43, 45, 47, 58, 64, 91, 96, 123, 127}) {
            for (int base : new int[] {2, 10, 11, 16, 35, 36}) {
                CHECK.due("digit of " + sign + " by " + base, with(sign).digit(2, base), -1);
            }
        }
    }

    private static void digitByNoBase() {
        for (int base : NO_BASES) {
            for (int sign : new int[] {0, 47, '0', '1', '9', 'A', 'Z', 'a', 'z', 127}) {
                CHECK.due("digit of " + sign + " by " + base, with(sign).digit(2, base), -1);
            }
        }
    }

    private static void forDigit() {
        String small = "0123456789abcdefghijklmnopqrstuvwxyz";
        for (int base = 2; base <= 36; base++) {
            for (int digit : new int[] {0, 1, base / 2, base - 1}) {
                becomes(digit, base, small.charAt(digit));
            }
        }
        becomes(9, 10, 57);
        becomes(9, 36, 57);
        becomes(10, 11, 97);
        becomes(10, 36, 97);
        becomes(35, 36, 122);
    }

    private static void forDigitByNoBase() {
        for (int base : NO_BASES) {
            for (int digit : new int[] {-1, 0, 1, 9, 10, 35, 36, Integer.MIN_VALUE, Integer.MAX_VALUE}) {
                becomes(digit, base, 0);
            }
        }
    }

    private static void forNoDigit() {
        for (int base = 2; base <= 36; base++) {
            for (int digit : new int[] {-1, base, base + 1, 36, 37, -base, Integer.MIN_VALUE, Integer.MAX_VALUE}) {
                becomes(digit, base, 0);
            }
        }
    }

    private static void becomes(int digit, int base, int want) {
        for (int k = 0; k < 4; k++) {
            Shortnumbers x = Check.filled();
            Shortnumbers like = Check.filled();
            like.setSign(k, want);
            CHECK.leaves("forDigit of " + digit + " by " + base, x.forDigit(k, digit, base), want, x, like);
        }
    }

    private static void compareSigns() {
        int[][] rows = {{0, 127, -1}, {127, 0, 1}, {0, 0, 0}, {127, 127, 0}, {65, 97, -1}, {90, 97, -1}, {57, 65, -1},
            {126, 127, -1}, {1, 0, 1}};
        for (int[] row : rows) {
            Shortnumbers x = new Shortnumbers();
            x.setSign(0, row[0]);
            x.setSign(3, row[1]);
            CHECK.due("compareSigns of " + row[0] + ", " + row[1], x.compareSigns(0, 3), row[2]);
            CHECK.due("compareSigns of " + row[1] + ", " + row[0], x.compareSigns(3, 0), -row[2]);
            CHECK.due("compareSigns of " + row[0], x.compareSigns(0, 0), 0);
        }
    }
}
