/** The document once more, told with the Java library, for ModelRunTest to compare with. */
public final class Model {
    private static final int REFUSED = -99999;

    private final byte[] bytes = new byte[4];
    private final short[] shorts = new short[4];
    private final char[] signs = new char[4];
    private final boolean[] flags = new boolean[4];
    private final StringBuilder[] texts = new StringBuilder[4];
    private int knocks;

    public Model() {
        for (int k = 0; k < 4; k++) {
            texts[k] = new StringBuilder();
        }
    }

    /** A reading by the library, which refuses by an exception. */
    private interface Reading {
        int read();
    }

    private static int read(Reading reading) {
        try {
            return reading.read();
        } catch (NumberFormatException e) {
            return REFUSED;
        }
    }

    private static void places(int... places) {
        for (int k : places) {
            if (k < 0 || k > 3) {
                throw new IndexOutOfBoundsException();
            }
        }
    }

    private static void upTo(int last, int what) {
        if (what < 0 || what > last) {
            throw new IllegalArgumentException();
        }
    }

    private int rewrite(int text, String signs) {
        texts[text].setLength(0);
        texts[text].append(signs);
        return signs.length();
    }

    public int write(int text, int sign) {
        places(text);
        upTo(127, sign);
        if (texts[text].length() == 20) {
            throw new IllegalStateException();
        }
        return texts[text].append((char) sign).length();
    }

    public int clear(int text) {
        places(text);
        int before = texts[text].length();
        rewrite(text, "");
        return before;
    }

    public String text(int text) {
        places(text);
        return texts[text].toString();
    }

    public int signOf(int sign, int text, int place) {
        places(sign, text);
        if (place < 0 || place >= texts[text].length()) {
            return REFUSED;
        }
        signs[sign] = texts[text].charAt(place);
        return signs[sign];
    }

    public int setByte(int k, int value) {
        places(k);
        bytes[k] = (byte) value;
        return bytes[k];
    }

    private int readByte(int k, int number) {
        return number == REFUSED ? REFUSED : setByte(k, number);
    }

    public int parseByte(int k, int text) {
        places(k, text);
        return readByte(k, read(() -> Byte.parseByte(text(text))));
    }

    public int parseByteBy(int k, int text, int base) {
        places(k, text);
        return readByte(k, read(() -> Byte.parseByte(text(text), base)));
    }

    public int decodeByte(int k, int text) {
        places(k, text);
        return readByte(k, read(() -> Byte.decode(text(text))));
    }

    public int writeByte(int k, int text, int base) {
        places(k, text);
        return rewrite(text, Integer.toString(bytes[k], base));
    }

    public int addBytes(int k, int a, int b) {
        places(k, a, b);
        return setByte(k, bytes[a] + bytes[b]);
    }

    public int ofByte(int k, int what) {
        places(k);
        upTo(4, what);
        Byte one = bytes[k];
        return new int[] {one, one.shortValue(), Byte.toUnsignedInt(one), one.hashCode(), one < 0 ? 1 : 0}[what];
    }

    public String unsignedByte(int k) {
        places(k);
        return Integer.toString(Byte.toUnsignedInt(bytes[k]));
    }

    public int compareBytes(int a, int b, boolean isUnsigned) {
        places(a, b);
        int order = isUnsigned ? Byte.compareUnsigned(bytes[a], bytes[b]) : Byte.compare(bytes[a], bytes[b]);
        return Integer.signum(order);
    }

    public boolean sameBytes(int a, int b) {
        places(a, b);
        return bytes[a] == bytes[b];
    }

    public int setShort(int k, int value) {
        places(k);
        shorts[k] = (short) value;
        return shorts[k];
    }

    private int readShort(int k, int number) {
        return number == REFUSED ? REFUSED : setShort(k, number);
    }

    public int parseShort(int k, int text) {
        places(k, text);
        return readShort(k, read(() -> Short.parseShort(text(text))));
    }

    public int parseShortBy(int k, int text, int base) {
        places(k, text);
        return readShort(k, read(() -> Short.parseShort(text(text), base)));
    }

    public int decodeShort(int k, int text) {
        places(k, text);
        return readShort(k, read(() -> Short.decode(text(text))));
    }

    public int writeShort(int k, int text, int base) {
        places(k, text);
        return rewrite(text, Integer.toString(shorts[k], base));
    }

    public int addShorts(int k, int a, int b) {
        places(k, a, b);
        return setShort(k, shorts[a] + shorts[b]);
    }

    public int ofShort(int k, int what) {
        places(k);
        upTo(4, what);
        Short one = shorts[k];
        return new int[] {one, one.byteValue(), Short.toUnsignedInt(one), one.hashCode(), Short.reverseBytes(one)}[what];
    }

    public String unsignedShort(int k) {
        places(k);
        return Integer.toString(Short.toUnsignedInt(shorts[k]));
    }

    public int compareShorts(int a, int b, boolean isUnsigned) {
        places(a, b);
        int order = isUnsigned ? Short.compareUnsigned(shorts[a], shorts[b]) : Short.compare(shorts[a], shorts[b]);
        return Integer.signum(order);
    }

    public boolean sameShorts(int a, int b) {
        places(a, b);
        return shorts[a] == shorts[b];
    }

    public int byteOfShort(int k, int s) {
        places(k, s);
        return setByte(k, shorts[s]);
    }

    public int shortOfByte(int k, int b, boolean isUnsigned) {
        places(k, b);
        return setShort(k, isUnsigned ? Byte.toUnsignedInt(bytes[b]) : bytes[b]);
    }

    public int turn(int k) {
        places(k);
        return setShort(k, Short.reverseBytes(shorts[k]));
    }

    public int setSign(int k, int number) {
        places(k);
        upTo(127, number);
        int before = signs[k];
        signs[k] = (char) number;
        return before;
    }

    public int ofSign(int k, int what) {
        places(k);
        upTo(3, what);
        Character one = signs[k];
        return new int[] {one, one.hashCode(), Character.getNumericValue(one), Character.reverseBytes(one)}[what];
    }

    public boolean isSign(int k, int what) {
        places(k);
        upTo(6, what);
        char one = signs[k];
        return new boolean[] {Character.isDigit(one), Character.isLetter(one), Character.isLetterOrDigit(one),
            Character.isWhitespace(one), Character.isUpperCase(one), Character.isLowerCase(one),
            Character.isSpaceChar(one)}[what];
    }

    public int toCase(int k, boolean isGreat) {
        places(k);
        signs[k] = isGreat ? Character.toUpperCase(signs[k]) : Character.toLowerCase(signs[k]);
        return signs[k];
    }

    public int digit(int k, int base) {
        places(k);
        return Character.digit(signs[k], base);
    }

    public int forDigit(int k, int digit, int base) {
        places(k);
        signs[k] = Character.forDigit(digit, base);
        return signs[k];
    }

    public int compareSigns(int a, int b) {
        places(a, b);
        return Integer.signum(Character.compare(signs[a], signs[b]));
    }

    public boolean setFlag(int k, boolean is) {
        places(k);
        boolean before = flags[k];
        flags[k] = is;
        return before;
    }

    public boolean parseFlag(int k, int text) {
        places(k, text);
        flags[k] = Boolean.parseBoolean(text(text));
        return flags[k];
    }

    public int writeFlag(int k, int text) {
        places(k, text);
        return rewrite(text, Boolean.toString(flags[k]));
    }

    public boolean join(int k, int a, int b, int what) {
        places(k, a, b);
        upTo(2, what);
        flags[k] = new boolean[] {Boolean.logicalAnd(flags[a], flags[b]), Boolean.logicalOr(flags[a], flags[b]),
            Boolean.logicalXor(flags[a], flags[b])}[what];
        return flags[k];
    }

    public int ofFlag(int k, int what) {
        places(k);
        upTo(1, what);
        return what == 0 ? (flags[k] ? 1 : 0) : Boolean.hashCode(flags[k]);
    }

    public int compareFlags(int a, int b) {
        places(a, b);
        return Boolean.compare(flags[a], flags[b]);
    }

    public boolean sameFlags(int a, int b) {
        places(a, b);
        return flags[a] == flags[b];
    }

    public int house(int what) {
        upTo(4, what);
        int length = 0;
        int count = 0;
        for (int k = 0; k < 4; k++) {
            length += texts[k].length();
            count += flags[k] ? 1 : 0;
        }
        return new int[] {knocks, length, count, Character.MIN_RADIX, Character.MAX_RADIX}[what];
    }

    public int knock() {
        return ++knocks;
    }

    public boolean isSound() {
        return true;
    }

    public long digest() {
        long d = 7706;
        for (int k = 0; k < 4; k++) {
            for (int what = 0; what < 5; what++) {
                d = d * 31 + ofByte(k, what);
            }
            for (int what = 0; what < 5; what++) {
                d = d * 31 + ofShort(k, what);
            }
            for (int what = 0; what < 4; what++) {
                d = d * 31 + ofSign(k, what);
            }
            for (int what = 0; what < 7; what++) {
                d = d * 31 + (isSign(k, what) ? 1 : 0);
            }
            d = (d * 31 + ofFlag(k, 0)) * 31 + ofFlag(k, 1);
            for (int place = 0; place < texts[k].length(); place++) {
                d = d * 31 + texts[k].charAt(place);
            }
        }
        d = (d * 31 + compareBytes(0, 1, false)) * 31 + compareBytes(0, 1, true);
        d = (d * 31 + compareShorts(0, 1, false)) * 31 + compareShorts(0, 1, true);
        d = (d * 31 + compareSigns(0, 1)) * 31 + compareFlags(2, 3);
        for (int what = 0; what < 5; what++) {
            d = d * 31 + house(what);
        }
        return d * 31 + 1;
    }
}
