/** Promises 29 to 35: setSign, ofSign, isSign, toCase, digit, forDigit, compareSigns. */
public final class SignsTest {
    private static final Check CHECK = new Check("SignsTest");
    private static final String DIGITS = "0123456789";
    private static final String SMALL = "abcdefghijklmnopqrstuvwxyz";
    private static final String GREAT = "ABCDEFGHIJKLMNOPQRSTUVWXYZ";
    private static final String WHITE = "\t\n\u000b\f\r\u001c\u001d\u001e\u001f ";

    public static void main(String[] args) {
        setSign();
        for (int sign = 0; sign <= 127; sign++) {
            ofSign(sign);
            isSign(sign);
            toCase(sign);
            digit(sign);
        }
        forDigit();
        compareSigns();
        refuses();
        CHECK.end();
    }

    private static Shortnumbers with(int sign) {
        Shortnumbers x = new Shortnumbers();
        x.setSign(1, sign);
        return x;
    }

    private static int worth(int sign) {
        int digit = DIGITS.indexOf(sign);
        int letter = Math.max(SMALL.indexOf(sign), GREAT.indexOf(sign));
        return digit >= 0 ? digit : letter >= 0 ? letter + 10 : -1;
    }

    private static void setSign() {
        Shortnumbers x = new Shortnumbers();
        for (int sign = 0; sign <= 127; sign++) {
            CHECK.due("setSign(2, " + sign + ")", x.setSign(2, sign), Math.max(0, sign - 1));
            CHECK.due("ofSign(2, 0)", x.ofSign(2, 0), sign);
        }
        CHECK.due("the others", x.ofSign(0, 0) + x.ofSign(1, 0) + x.ofSign(3, 0), 0);
    }

    private static void ofSign(int sign) {
        Shortnumbers x = with(sign);
        long before = x.digest();
        CHECK.due("ofSign 0 of " + sign, x.ofSign(1, 0), sign);
        CHECK.due("ofSign 1 of " + sign, x.ofSign(1, 1), sign);
        CHECK.due("ofSign 2 of " + sign, x.ofSign(1, 2), worth(sign));
        CHECK.due("ofSign 3 of " + sign, x.ofSign(1, 3), sign * 256);
        CHECK.due("ofSign changes nothing", x.digest(), before);
    }

    private static void isSign(int sign) {
        Shortnumbers x = with(sign);
        boolean isDigit = DIGITS.indexOf(sign) >= 0;
        boolean isGreat = GREAT.indexOf(sign) >= 0;
        boolean isSmall = SMALL.indexOf(sign) >= 0;
        boolean[] want = {isDigit, isGreat || isSmall, isDigit || isGreat || isSmall,
            WHITE.indexOf(sign) >= 0, isGreat, isSmall, sign == 32};
        long before = x.digest();
        for (int what = 0; what <= 6; what++) {
            CHECK.due("isSign " + what + " of " + sign, x.isSign(1, what), want[what]);
        }
        CHECK.due("isSign changes nothing", x.digest(), before);
    }

    private static void toCase(int sign) {
        int great = SMALL.indexOf(sign) >= 0 ? GREAT.charAt(SMALL.indexOf(sign)) : sign;
        int small = GREAT.indexOf(sign) >= 0 ? SMALL.charAt(GREAT.indexOf(sign)) : sign;
        Shortnumbers x = with(sign);
        CHECK.due("great of " + sign, x.toCase(1, true), great);
        CHECK.due("ofSign(1, 0)", x.ofSign(1, 0), great);
        x.setSign(1, sign);
        CHECK.due("small of " + sign, x.toCase(1, false), small);
        CHECK.due("ofSign(1, 0)", x.ofSign(1, 0), small);
        CHECK.due("the others", x.ofSign(0, 0) + x.ofSign(2, 0) + x.ofSign(3, 0), 0);
    }

    private static void digit(int sign) {
        Shortnumbers x = with(sign);
        long before = x.digest();
        for (int base = -3; base <= 40; base++) {
            boolean isOne = base >= 2 && base <= 36 && worth(sign) < base;
            CHECK.due("digit " + sign + " by " + base, x.digit(1, base), isOne ? worth(sign) : -1);
        }
        CHECK.due("digit by the least int", x.digit(1, Integer.MIN_VALUE), -1);
        CHECK.due("digit by the greatest int", x.digit(1, Integer.MAX_VALUE), -1);
        CHECK.due("digit changes nothing", x.digest(), before);
    }

    private static void forDigit() {
        String digits = DIGITS + SMALL;
        for (int base = -2; base <= 38; base++) {
            for (int digit = -2; digit <= 38; digit++) {
                boolean isOne = base >= 2 && base <= 36 && digit >= 0 && digit < base;
                int want = isOne ? digits.charAt(digit) : 0;
                Shortnumbers x = with(99);
                CHECK.due("forDigit " + digit + " by " + base, x.forDigit(1, digit, base), want);
                CHECK.due("ofSign(1, 0)", x.ofSign(1, 0), want);
            }
        }
        int[] far = {Integer.MIN_VALUE, Integer.MAX_VALUE};
        for (int number : far) {
            CHECK.due("forDigit " + number + " by 36", with(99).forDigit(1, number, 36), 0);
            CHECK.due("forDigit 1 by " + number, with(99).forDigit(1, 1, number), 0);
        }
        Shortnumbers x = Check.filled();
        x.forDigit(0, 11, 16);
        CHECK.due("the signs", x.ofSign(0, 0) + x.ofSign(1, 0) + x.ofSign(2, 0) + x.ofSign(3, 0),
                'b' + 'z' + '7' + ' ');
    }

    private static void compareSigns() {
        for (int first = 0; first <= 127; first += 1) {
            for (int second = 0; second <= 127; second += 7) {
                Shortnumbers x = with(first);
                x.setSign(3, second);
                CHECK.due("compareSigns of " + first + ", " + second, x.compareSigns(1, 3),
                        Integer.compare(first, second));
                CHECK.due("compareSigns of " + second + ", " + first, x.compareSigns(3, 1),
                        Integer.compare(second, first));
            }
        }
        Shortnumbers x = Check.filled();
        CHECK.due("compareSigns(2, 2)", x.compareSigns(2, 2), 0);
    }

    private static void refuses() {
        CHECK.refusesPlaces("setSign(?, 65)", (x, k) -> x.setSign(k, 65));
        CHECK.refusesPlaces("setSign(?, 128)", (x, k) -> x.setSign(k, 128));
        CHECK.refusesWhat("setSign(0, ?)", 127, (x, number) -> x.setSign(0, number));
        CHECK.refusesPlaces("ofSign(?, 0)", (x, k) -> x.ofSign(k, 0));
        CHECK.refusesPlaces("ofSign(?, 4)", (x, k) -> x.ofSign(k, 4));
        CHECK.refusesWhat("ofSign(0, ?)", 3, (x, what) -> x.ofSign(0, what));
        CHECK.refusesPlaces("isSign(?, 0)", (x, k) -> x.isSign(k, 0));
        CHECK.refusesPlaces("isSign(?, 7)", (x, k) -> x.isSign(k, 7));
        CHECK.refusesWhat("isSign(0, ?)", 6, (x, what) -> x.isSign(0, what));
        CHECK.refusesPlaces("toCase(?, true)", (x, k) -> x.toCase(k, true));
        CHECK.refusesPlaces("toCase(?, false)", (x, k) -> x.toCase(k, false));
        CHECK.refusesPlaces("digit(?, 10)", (x, k) -> x.digit(k, 10));
        CHECK.refusesPlaces("digit(?, 1)", (x, k) -> x.digit(k, 1));
        CHECK.refusesPlaces("forDigit(?, 1, 10)", (x, k) -> x.forDigit(k, 1, 10));
        CHECK.refusesPlaces("forDigit(?, 1, 1)", (x, k) -> x.forDigit(k, 1, 1));
        CHECK.refusesPlaces("compareSigns(?, 0)", (x, k) -> x.compareSigns(k, 0));
        CHECK.refusesPlaces("compareSigns(0, ?)", (x, k) -> x.compareSigns(0, k));
    }
}
