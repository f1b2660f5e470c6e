/**
 * Numbers of few binary digits, signs and flags, each kept as a thing of its own, and texts
 * between them. What each method promises stands in ../shared/DOC.md under the same name.
 */
public final class Shortnumbers {
    private static final int NONE = -1;
    private static final int REFUSED = -99999;
    private static final int KEPT = 4;
    private static final int TEXT_LIMIT = 20;
    private static final int GREATEST_SIGN = 127;
    private static final int LEAST_BASE = 2;
    private static final int GREATEST_BASE = 36;
    private static final int DECIMAL = 10;
    private static final int BYTE_SPAN = 256;
    private static final int SHORT_SPAN = 65536;
    private static final int DIGEST_START = 7706;
    private static final String TRUE = "true";
    private static final String FALSE = "false";

    private final Row bytes;
    private final Row shorts;
    private final int[] signs;
    private final boolean[] flags;
    private final Text[] texts;
    /** Made once: isSound() writes hundreds of numerals a call, and nothing made is given back. */
    private final Text trial;
    private int knocks;

    public Shortnumbers() {
        bytes = new Row(BYTE_SPAN);
        shorts = new Row(SHORT_SPAN);
        signs = new int[KEPT];
        flags = new boolean[KEPT];
        texts = new Text[KEPT];
        for (int k = 0; k < KEPT; k++) {
            texts[k] = new Text();
        }
        trial = new Text();
    }

    // ---- texts

    public int write(int text, int sign)
            throws IndexOutOfBoundsException, IllegalArgumentException, IllegalStateException {
        needPlace(text);
        needSignNumber(sign);
        needRoom(texts[text]);
        texts[text].append(sign);
        return texts[text].size();
    }

    public int clear(int text) throws IndexOutOfBoundsException {
        needPlace(text);
        int before = texts[text].size();
        texts[text].empty();
        return before;
    }

    public String text(int text) throws IndexOutOfBoundsException {
        needPlace(text);
        return texts[text].spelled();
    }

    public int signOf(int sign, int text, int place) throws IndexOutOfBoundsException {
        needPlace(sign);
        needPlace(text);
        if (!texts[text].hasPlace(place)) {
            return REFUSED;
        }
        signs[sign] = texts[text].signAt(place);
        return signs[sign];
    }

    // ---- bytes

    public int setByte(int k, int value) throws IndexOutOfBoundsException {
        needPlace(k);
        return bytes.keep(k, value);
    }

    public int parseByte(int k, int text) throws IndexOutOfBoundsException {
        return parseByteBy(k, text, DECIMAL);
    }

    public int parseByteBy(int k, int text, int base) throws IndexOutOfBoundsException {
        needPlace(k);
        needPlace(text);
        return bytes.keepRead(k, Numerals.byBase(texts[text], base, bytes.greatest()));
    }

    public int decodeByte(int k, int text) throws IndexOutOfBoundsException {
        needPlace(k);
        needPlace(text);
        return bytes.keepRead(k, Numerals.told(texts[text], bytes.greatest()));
    }

    public int writeByte(int k, int text, int base) throws IndexOutOfBoundsException {
        needPlace(k);
        needPlace(text);
        Numerals.put(texts[text], bytes.at(k), base);
        return texts[text].size();
    }

    public int addBytes(int k, int a, int b) throws IndexOutOfBoundsException {
        needPlace(k);
        needPlace(a);
        needPlace(b);
        return bytes.keep(k, bytes.at(a) + bytes.at(b));
    }

    public int ofByte(int k, int what) throws IndexOutOfBoundsException, IllegalArgumentException {
        needPlace(k);
        needWhat(what, 4);
        return aboutByte(k, what);
    }

    public String unsignedByte(int k) throws IndexOutOfBoundsException {
        needPlace(k);
        return decimal(bytes.withoutSign(k));
    }

    public int compareBytes(int a, int b, boolean isUnsigned) throws IndexOutOfBoundsException {
        needPlace(a);
        needPlace(b);
        return bytes.order(a, b, isUnsigned);
    }

    public boolean sameBytes(int a, int b) throws IndexOutOfBoundsException {
        needPlace(a);
        needPlace(b);
        return bytes.at(a) == bytes.at(b);
    }

    // ---- shorts

    public int setShort(int k, int value) throws IndexOutOfBoundsException {
        needPlace(k);
        return shorts.keep(k, value);
    }

    public int parseShort(int k, int text) throws IndexOutOfBoundsException {
        return parseShortBy(k, text, DECIMAL);
    }

    public int parseShortBy(int k, int text, int base) throws IndexOutOfBoundsException {
        needPlace(k);
        needPlace(text);
        return shorts.keepRead(k, Numerals.byBase(texts[text], base, shorts.greatest()));
    }

    public int decodeShort(int k, int text) throws IndexOutOfBoundsException {
        needPlace(k);
        needPlace(text);
        return shorts.keepRead(k, Numerals.told(texts[text], shorts.greatest()));
    }

    public int writeShort(int k, int text, int base) throws IndexOutOfBoundsException {
        needPlace(k);
        needPlace(text);
        Numerals.put(texts[text], shorts.at(k), base);
        return texts[text].size();
    }

    public int addShorts(int k, int a, int b) throws IndexOutOfBoundsException {
        needPlace(k);
        needPlace(a);
        needPlace(b);
        return shorts.keep(k, shorts.at(a) + shorts.at(b));
    }

    public int ofShort(int k, int what) throws IndexOutOfBoundsException, IllegalArgumentException {
        needPlace(k);
        needWhat(what, 4);
        return aboutShort(k, what);
    }

    public String unsignedShort(int k) throws IndexOutOfBoundsException {
        needPlace(k);
        return decimal(shorts.withoutSign(k));
    }

    public int compareShorts(int a, int b, boolean isUnsigned) throws IndexOutOfBoundsException {
        needPlace(a);
        needPlace(b);
        return shorts.order(a, b, isUnsigned);
    }

    public boolean sameShorts(int a, int b) throws IndexOutOfBoundsException {
        needPlace(a);
        needPlace(b);
        return shorts.at(a) == shorts.at(b);
    }

    public int byteOfShort(int k, int s) throws IndexOutOfBoundsException {
        needPlace(k);
        needPlace(s);
        return bytes.keep(k, shorts.at(s));
    }

    public int shortOfByte(int k, int b, boolean isUnsigned) throws IndexOutOfBoundsException {
        needPlace(k);
        needPlace(b);
        return shorts.keep(k, isUnsigned ? bytes.withoutSign(b) : bytes.at(b));
    }

    public int turn(int k) throws IndexOutOfBoundsException {
        needPlace(k);
        return shorts.keep(k, turned(shorts.at(k)));
    }

    // ---- signs

    public int setSign(int k, int number) throws IndexOutOfBoundsException, IllegalArgumentException {
        needPlace(k);
        needSignNumber(number);
        int before = signs[k];
        signs[k] = number;
        return before;
    }

    public int ofSign(int k, int what) throws IndexOutOfBoundsException, IllegalArgumentException {
        needPlace(k);
        needWhat(what, 3);
        return aboutSign(k, what);
    }

    public boolean isSign(int k, int what) throws IndexOutOfBoundsException, IllegalArgumentException {
        needPlace(k);
        needWhat(what, 6);
        return Signs.isOfKind(signs[k], what);
    }

    public int toCase(int k, boolean isGreat) throws IndexOutOfBoundsException {
        needPlace(k);
        signs[k] = isGreat ? Signs.great(signs[k]) : Signs.small(signs[k]);
        return signs[k];
    }

    public int digit(int k, int base) throws IndexOutOfBoundsException {
        needPlace(k);
        return Signs.digitBy(signs[k], base);
    }

    public int forDigit(int k, int digit, int base) throws IndexOutOfBoundsException {
        needPlace(k);
        signs[k] = Signs.ofDigit(digit, base);
        return signs[k];
    }

    public int compareSigns(int a, int b) throws IndexOutOfBoundsException {
        needPlace(a);
        needPlace(b);
        return orderOf(signs[a], signs[b]);
    }

    // ---- flags

    public boolean setFlag(int k, boolean is) throws IndexOutOfBoundsException {
        needPlace(k);
        boolean before = flags[k];
        flags[k] = is;
        return before;
    }

    public boolean parseFlag(int k, int text) throws IndexOutOfBoundsException {
        needPlace(k);
        needPlace(text);
        flags[k] = tellsTrue(texts[text]);
        return flags[k];
    }

    public int writeFlag(int k, int text) throws IndexOutOfBoundsException {
        needPlace(k);
        needPlace(text);
        texts[text].become(flags[k] ? TRUE : FALSE);
        return texts[text].size();
    }

    public boolean join(int k, int a, int b, int what)
            throws IndexOutOfBoundsException, IllegalArgumentException {
        needPlace(k);
        needPlace(a);
        needPlace(b);
        needWhat(what, 2);
        flags[k] = joined(flags[a], flags[b], what);
        return flags[k];
    }

    public int ofFlag(int k, int what) throws IndexOutOfBoundsException, IllegalArgumentException {
        needPlace(k);
        needWhat(what, 1);
        return aboutFlag(k, what);
    }

    public int compareFlags(int a, int b) throws IndexOutOfBoundsException {
        needPlace(a);
        needPlace(b);
        return orderOfFlags(a, b);
    }

    public boolean sameFlags(int a, int b) throws IndexOutOfBoundsException {
        needPlace(a);
        needPlace(b);
        return flags[a] == flags[b];
    }

    // ---- the house

    public int house(int what) throws IllegalArgumentException {
        needWhat(what, 4);
        return aboutHouse(what);
    }

    public int knock() {
        knocks++;
        return knocks;
    }

    public boolean isSound() {
        for (int k = 0; k < KEPT; k++) {
            boolean areNumbersSound = isNumberSound(bytes, k) && isNumberSound(shorts, k);
            if (!areNumbersSound || !isTurnSound(shorts.at(k)) || !isDigitSound(signs[k])) {
                return false;
            }
        }
        return areOrdersSound(bytes) && areOrdersSound(shorts);
    }

    public long digest() {
        long d = DIGEST_START;
        for (int k = 0; k < KEPT; k++) {
            d = digestOfNumbers(d, k);
            d = digestOfSign(d, k);
            d = mix(mix(d, aboutFlag(k, 0)), aboutFlag(k, 1));
            d = digestOfText(d, texts[k]);
        }
        d = digestOfOrders(d);
        for (int what = 0; what <= 4; what++) {
            d = mix(d, aboutHouse(what));
        }
        return mix(d, isSound() ? 1 : 0);
    }

    // ---- what a call needs

    private static void needPlace(int k) {
        if (k < 0 || k >= KEPT) {
            throw new IndexOutOfBoundsException("only 0 to 3 are there");
        }
    }

    private static void needSignNumber(int number) {
        if (number < 0 || number > GREATEST_SIGN) {
            throw new IllegalArgumentException("a sign has a number from 0 to 127");
        }
    }

    private static void needRoom(Text text) {
        if (text.isFull()) {
            throw new IllegalStateException("a text has at most 20 signs");
        }
    }

    private static void needWhat(int what, int last) {
        if (what < 0 || what > last) {
            throw new IllegalArgumentException("nothing is asked by that number");
        }
    }

    // ---- what is told of the kept things; the callers have looked at k and what

    private int aboutByte(int k, int what) {
        if (what == 2) {
            return bytes.withoutSign(k);
        }
        if (what == 4) {
            return bytes.at(k) < 0 ? 1 : 0;
        }
        return bytes.at(k);
    }

    private int aboutShort(int k, int what) {
        switch (what) {
            case 1:
                return bytes.cut(shorts.at(k));
            case 2:
                return shorts.withoutSign(k);
            case 4:
                return shorts.cut(turned(shorts.at(k)));
            default:
                return shorts.at(k);
        }
    }

    private int aboutSign(int k, int what) {
        if (what == 2) {
            return Signs.worth(signs[k]);
        }
        if (what == 3) {
            return turned(signs[k]);
        }
        return signs[k];
    }

    private int aboutFlag(int k, int what) {
        if (what == 0) {
            return flags[k] ? 1 : 0;
        }
        return flags[k] ? 1231 : 1237;
    }

    private int aboutHouse(int what) {
        switch (what) {
            case 0:
                return knocks;
            case 1:
                return signsOfTexts();
            case 2:
                return flagsThatAreTrue();
            case 3:
                return LEAST_BASE;
            default:
                return GREATEST_BASE;
        }
    }

    private int signsOfTexts() {
        int count = 0;
        for (int k = 0; k < KEPT; k++) {
            count += texts[k].size();
        }
        return count;
    }

    private int flagsThatAreTrue() {
        int count = 0;
        for (int k = 0; k < KEPT; k++) {
            count += aboutFlag(k, 0);
        }
        return count;
    }

    // ---- numbers and flags

    private static int orderOf(int first, int second) {
        if (first == second) {
            return 0;
        }
        return first < second ? -1 : 1;
    }

    private int orderOfFlags(int a, int b) {
        return orderOf(aboutFlag(a, 0), aboutFlag(b, 0));
    }

    /** The two lower groups of 8 binary digits, changed over; WITHOUT A SIGN, not CUT yet. */
    private static int turned(int number) {
        int lower = number & 255;
        int upper = (number >> 8) & 255;
        return (lower << 8) | upper;
    }

    private static String decimal(int number) {
        return new StringBuilder().append(number).toString();
    }

    private static boolean joined(boolean first, boolean second, int what) {
        if (what == 0) {
            return first && second;
        }
        if (what == 1) {
            return first || second;
        }
        return first != second;
    }

    private static boolean tellsTrue(Text text) {
        if (text.size() != TRUE.length()) {
            return false;
        }
        for (int place = 0; place < TRUE.length(); place++) {
            if (Signs.small(text.signAt(place)) != TRUE.charAt(place)) {
                return false;
            }
        }
        return true;
    }

    // ---- soundness

    private boolean isNumberSound(Row row, int k) {
        int number = row.at(k);
        for (int base = LEAST_BASE; base <= GREATEST_BASE; base++) {
            Numerals.put(trial, number, base);
            if (Numerals.byBase(trial, base, row.greatest()) != number) {
                return false;
            }
        }
        return row.cut(row.withoutSign(k)) == number;
    }

    private boolean isTurnSound(int number) {
        int once = shorts.cut(turned(number));
        return shorts.cut(turned(once)) == number;
    }

    private static boolean isDigitSound(int sign) {
        int digit = Signs.digitBy(sign, GREATEST_BASE);
        return digit == NONE
                || Signs.digitBy(Signs.ofDigit(digit, GREATEST_BASE), GREATEST_BASE) == digit;
    }

    private static boolean areOrdersSound(Row row) {
        for (int a = 0; a < KEPT; a++) {
            for (int b = 0; b < KEPT; b++) {
                if (!isOrderSound(row, a, b, false) || !isOrderSound(row, a, b, true)) {
                    return false;
                }
            }
        }
        return true;
    }

    private static boolean isOrderSound(Row row, int a, int b, boolean isUnsigned) {
        int order = row.order(a, b, isUnsigned);
        if (row.at(a) == row.at(b)) {
            return order == 0;
        }
        return order == -row.order(b, a, isUnsigned);
    }

    // ---- checksum

    private static long mix(long d, int v) {
        return d * 31 + v;
    }

    private long digestOfNumbers(long before, int k) {
        long d = before;
        for (int what = 0; what <= 4; what++) {
            d = mix(d, aboutByte(k, what));
        }
        for (int what = 0; what <= 4; what++) {
            d = mix(d, aboutShort(k, what));
        }
        return d;
    }

    private long digestOfSign(long before, int k) {
        long d = before;
        for (int what = 0; what <= 3; what++) {
            d = mix(d, aboutSign(k, what));
        }
        for (int what = 0; what <= 6; what++) {
            d = mix(d, Signs.isOfKind(signs[k], what) ? 1 : 0);
        }
        return d;
    }

    private static long digestOfText(long before, Text text) {
        long d = before;
        for (int place = 0; place < text.size(); place++) {
            d = mix(d, text.signAt(place));
        }
        return d;
    }

    private long digestOfOrders(long before) {
        long d = before;
        d = mix(d, bytes.order(0, 1, false));
        d = mix(d, bytes.order(0, 1, true));
        d = mix(d, shorts.order(0, 1, false));
        d = mix(d, shorts.order(0, 1, true));
        d = mix(d, orderOf(signs[0], signs[1]));
        return mix(d, orderOfFlags(2, 3));
    }

    /** The four numbers of one kind; the span is how many numbers the kind has, a power of 2. */
    private static final class Row {
        private final int span;
        private final int[] numbers;

        Row(int span) {
            this.span = span;
            numbers = new int[KEPT];
        }

        int greatest() {
            return span / 2 - 1;
        }

        int at(int k) {
            return numbers[k];
        }

        int cut(int number) {
            int lower = number & (span - 1);
            return lower > greatest() ? lower - span : lower;
        }

        int withoutSign(int k) {
            return numbers[k] < 0 ? numbers[k] + span : numbers[k];
        }

        int keep(int k, int number) {
            numbers[k] = cut(number);
            return numbers[k];
        }

        /** REFUSED is no number of either kind, so it can stand for a numeral that was none. */
        int keepRead(int k, int number) {
            return number == REFUSED ? REFUSED : keep(k, number);
        }

        int order(int a, int b, boolean isUnsigned) {
            if (isUnsigned) {
                return orderOf(withoutSign(a), withoutSign(b));
            }
            return orderOf(numbers[a], numbers[b]);
        }
    }

    /** At most 20 signs, one behind the other. */
    private static final class Text {
        private final char[] places;
        private int size;

        Text() {
            places = new char[TEXT_LIMIT];
        }

        int size() {
            return size;
        }

        boolean isFull() {
            return size >= places.length;
        }

        boolean hasPlace(int place) {
            return place >= 0 && place < size;
        }

        /** NONE behind the end, so that a reader may look ahead. */
        int signAt(int place) {
            return hasPlace(place) ? places[place] : NONE;
        }

        void append(int sign) {
            if (!isFull()) {
                places[size] = (char) sign;
                size++;
            }
        }

        void empty() {
            size = 0;
        }

        void become(String word) {
            empty();
            for (int place = 0; place < word.length(); place++) {
                append(word.charAt(place));
            }
        }

        void turnAround() {
            for (int front = 0; front < size / 2; front++) {
                int back = size - 1 - front;
                char kept = places[front];
                places[front] = places[back];
                places[back] = kept;
            }
        }

        String spelled() {
            StringBuilder spelling = new StringBuilder();
            for (int place = 0; place < size; place++) {
                spelling.append(places[place]);
            }
            return spelling.toString();
        }
    }

    /** What signs are, told by their numbers. */
    private static final class Signs {
        static boolean isDecimal(int sign) {
            return sign >= '0' && sign <= '9';
        }

        static boolean isGreat(int sign) {
            return sign >= 'A' && sign <= 'Z';
        }

        static boolean isSmall(int sign) {
            return sign >= 'a' && sign <= 'z';
        }

        static boolean isLetter(int sign) {
            return isGreat(sign) || isSmall(sign);
        }

        static boolean isWhite(int sign) {
            return (sign >= 9 && sign <= 13) || (sign >= 28 && sign <= 32);
        }

        static boolean isOfKind(int sign, int what) {
            switch (what) {
                case 0:
                    return isDecimal(sign);
                case 1:
                    return isLetter(sign);
                case 2:
                    return isDecimal(sign) || isLetter(sign);
                case 3:
                    return isWhite(sign);
                case 4:
                    return isGreat(sign);
                case 5:
                    return isSmall(sign);
                default:
                    return sign == ' ';
            }
        }

        static int great(int sign) {
            return isSmall(sign) ? sign - 32 : sign;
        }

        static int small(int sign) {
            return isGreat(sign) ? sign + 32 : sign;
        }

        static int worth(int sign) {
            if (isDecimal(sign)) {
                return sign - '0';
            }
            if (isGreat(sign)) {
                return sign - 'A' + 10;
            }
            return isSmall(sign) ? sign - 'a' + 10 : NONE;
        }

        static int digitBy(int sign, int base) {
            int worth = worth(sign);
            return Numerals.isBase(base) && worth < base ? worth : NONE;
        }

        /** The sign 0, where the base has no such digit. */
        static int ofDigit(int digit, int base) {
            if (!Numerals.isBase(base) || digit < 0 || digit >= base) {
                return 0;
            }
            return digit < 10 ? '0' + digit : 'a' + digit - 10;
        }
    }

    /** Numerals read from texts and put into them; greatest is the greatest number that fits. */
    private static final class Numerals {
        static boolean isBase(int base) {
            return base >= LEAST_BASE && base <= GREATEST_BASE;
        }

        static int byBase(Text text, int base, int greatest) {
            return isBase(base) ? digitsFrom(text, firstDigit(text), base, greatest) : REFUSED;
        }

        static int told(Text text, int greatest) {
            int first = firstDigit(text);
            int sign = text.signAt(first);
            int next = text.signAt(first + 1);
            if (sign == '#') {
                return digitsFrom(text, first + 1, 16, greatest);
            }
            if (sign != '0' || next == NONE) {
                return digitsFrom(text, first, DECIMAL, greatest);
            }
            if (next == 'x' || next == 'X') {
                return digitsFrom(text, first + 2, 16, greatest);
            }
            return digitsFrom(text, first + 1, 8, greatest);
        }

        static void put(Text text, int number, int base) {
            int by = isBase(base) ? base : DECIMAL;
            int rest = number < 0 ? -number : number;
            text.empty();
            for (int place = 0; place < TEXT_LIMIT && (place == 0 || rest > 0); place++) {
                text.append(Signs.ofDigit(rest % by, by));
                rest /= by;
            }
            if (number < 0) {
                text.append('-');
            }
            text.turnAround();
        }

        private static int firstDigit(Text text) {
            return text.signAt(0) == '+' || text.signAt(0) == '-' ? 1 : 0;
        }

        /**
         * With each digit the number goes away from 0 or stays there: once it does not fit, it
         * never fits again, and leaving at once keeps 20 digits from wrapping around.
         */
        private static int digitsFrom(Text text, int from, int base, int greatest) {
            if (!text.hasPlace(from)) {
                return REFUSED;
            }
            boolean isBelow = text.signAt(0) == '-';
            int number = 0;
            for (int place = from; place < text.size(); place++) {
                int digit = Signs.worth(text.signAt(place));
                if (digit == NONE || digit >= base) {
                    return REFUSED;
                }
                number = number * base + (isBelow ? -digit : digit);
                if (number > greatest || number < -greatest - 1) {
                    return REFUSED;
                }
            }
            return number;
        }
    }
}
