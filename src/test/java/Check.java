import java.util.Objects;

/** Counts the answers of one test that are not the ones that are due, and ends the test by them. */
final class Check {
    static final String TWENTY = "12345678901234567890";
    static final int[] NO_PLACES = {-1, 4, Integer.MIN_VALUE, Integer.MAX_VALUE};

    /** A call of an object with one number that differs from try to try. */
    interface Call {
        Object on(Shortnumbers x, int number);
    }

    private final String test;
    private String sentence = "";
    private int asked;
    private int wrong;

    Check(String test) {
        this.test = test;
    }

    void due(String call, Object got, Object want) {
        asked++;
        if (!Objects.equals(got, want)) {
            wrong++;
            System.out.println(test + ": " + sentence + call + " answered " + got + ", due is " + want);
        }
    }

    int asked() {
        return asked;
    }

    /** What the answers that follow are asked about, for the line that tells a wrong one. */
    void about(String what) {
        sentence = what.isEmpty() ? "" : "\"" + what + "\": ";
    }

    /** The call must throw just this exception, and the object must be what it was before. */
    void refuses(String call, Shortnumbers x, Class<?> want, Call asking, int number) {
        String before = state(x);
        due(call + " with " + number, answer(x, asking, number), want);
        due(call + " with " + number + ", then the state", state(x), before);
    }

    /** The call must have answered this, and the object must be now what the other one is. */
    void leaves(String call, Object got, Object want, Shortnumbers x, Shortnumbers like) {
        due(call, got, want);
        due(call + ", then the state", state(x), state(like));
    }

    void refusesAll(String call, Class<?> want, Call asking, int... numbers) {
        for (int number : numbers) {
            refuses(call, filled(), want, asking, number);
        }
    }

    void refusesPlaces(String call, Call asking) {
        refusesAll(call, IndexOutOfBoundsException.class, asking, NO_PLACES);
    }

    void refusesWhat(String call, int last, Call asking) {
        refusesAll(call, IllegalArgumentException.class, asking,
                -1, last + 1, Integer.MIN_VALUE, Integer.MAX_VALUE);
    }

    void end() {
        System.out.println(test + ": " + asked + " answers, " + wrong + " of them not as due");
        if (wrong != 0 || asked == 0) {
            System.exit(1);
        }
    }

    /** What a call answers, or the class of what it throws. */
    static Object answer(Shortnumbers x, Call asking, int number) {
        try {
            return asking.on(x, number);
        } catch (RuntimeException e) {
            return e.getClass();
        }
    }

    /** All that an object keeps, so that two of them can be compared. */
    static String state(Shortnumbers x) {
        StringBuilder state = new StringBuilder("knocks " + x.house(0));
        for (int k = 0; k < 4; k++) {
            state.append(" | ").append(x.ofByte(k, 0)).append(' ').append(x.ofShort(k, 0))
                    .append(' ').append(x.ofSign(k, 0)).append(' ').append(x.ofFlag(k, 0))
                    .append(" [").append(x.text(k)).append(']');
        }
        return state.toString();
    }

    static String texts(Shortnumbers x) {
        return x.text(0) + "|" + x.text(1) + "|" + x.text(2) + "|" + x.text(3);
    }

    /** Empties a text and writes this there. */
    static Shortnumbers type(Shortnumbers x, int text, String signs) {
        x.clear(text);
        for (int place = 0; place < signs.length(); place++) {
            x.write(text, signs.charAt(place));
        }
        return x;
    }

    static Shortnumbers withText(String signs) {
        return type(new Shortnumbers(), 0, signs);
    }

    /** An object in which no two things of a kind are alike, but for the flags. */
    static Shortnumbers filled() {
        Shortnumbers x = new Shortnumbers();
        int[] bytes = {-5, 100, -128, 127};
        int[] shorts = {300, -32768, 32767, -2};
        int[] signs = {'A', 'z', '7', ' '};
        String[] texts = {"12", "-1f", "true", "x"};
        for (int k = 0; k < 4; k++) {
            x.setByte(k, bytes[k]);
            x.setShort(k, shorts[k]);
            x.setSign(k, signs[k]);
            x.setFlag(k, k == 1 || k == 2);
            type(x, k, texts[k]);
        }
        x.knock();
        return x;
    }

    /** An object with the numbers, signs and texts that lie at the end of what there can be. */
    static Shortnumbers full() {
        Shortnumbers x = new Shortnumbers();
        int[] bytes = {-128, 127, -1, 1};
        int[] shorts = {-32768, 32767, -1, 128};
        int[] signs = {127, 0, 'Z', '9'};
        String[] texts = {TWENTY, "-0000000000000000080", "0000000000000000007f", "true                "};
        for (int k = 0; k < 4; k++) {
            x.setByte(k, bytes[k]);
            x.setShort(k, shorts[k]);
            x.setSign(k, signs[k]);
            x.setFlag(k, true);
            type(x, k, texts[k]);
        }
        return x;
    }
}
