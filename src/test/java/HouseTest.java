import java.lang.reflect.Field;

/** Promises 43 to 46: house, knock, isSound, digest. */
public final class HouseTest {
    private static final Check CHECK = new Check("HouseTest");

    public static void main(String[] args) throws ReflectiveOperationException {
        house();
        knock();
        isSound();
        isNotSound();
        digest();
        CHECK.end();
    }

    private static void house() {
        int[] fresh = {0, 0, 0, 2, 36};
        int[] filled = {1, 10, 2, 2, 36};
        for (int what = 0; what <= 4; what++) {
            CHECK.due("house of a new one", new Shortnumbers().house(what), fresh[what]);
            CHECK.due("house of a filled one", Check.filled().house(what), filled[what]);
        }
        Shortnumbers x = Check.filled();
        long before = x.digest();
        x.house(0);
        CHECK.due("house changes nothing", x.digest(), before);
        for (int k = 0; k < 4; k++) {
            x.setFlag(k, true);
            Check.type(x, k, "12345678901234567890");
        }
        CHECK.due("house(1) of full texts", x.house(1), 80);
        CHECK.due("house(2) of all flags", x.house(2), 4);
        CHECK.refusesWhat("house(?)", 4, (y, what) -> y.house(what));
    }

    private static void knock() {
        Shortnumbers x = new Shortnumbers();
        for (int count = 1; count <= 100; count++) {
            CHECK.due("knock no. " + count, x.knock(), count);
            CHECK.due("house(0)", x.house(0), count);
        }
        CHECK.due("knocks of another object", new Shortnumbers().knock(), 1);
    }

    private static void isSound() {
        CHECK.due("isSound of a new one", new Shortnumbers().isSound(), true);
        Shortnumbers filled = Check.filled();
        long before = filled.digest();
        CHECK.due("isSound of a filled one", filled.isSound(), true);
        CHECK.due("isSound changes nothing", filled.digest(), before);
        CHECK.due("isSound leaves the texts", Check.texts(filled), "12|-1f|true|x");
        for (int number = 0; number < 65536; number += 4) {
            Shortnumbers x = new Shortnumbers();
            for (int k = 0; k < 4; k++) {
                x.setByte(k, number + k);
                x.setShort(k, number + k);
                x.setSign(k, number + k & 127);
            }
            CHECK.due("isSound by " + number, x.isSound(), true);
        }
    }

    /** No call can make an object unsound, so the test puts numbers there that do not fit. */
    private static void isNotSound() throws ReflectiveOperationException {
        for (int k = 0; k < 4; k++) {
            CHECK.due("isSound with a BYTE 128", withNumber("bytes", k, 128).isSound(), false);
            CHECK.due("isSound with a BYTE -129", withNumber("bytes", k, -129).isSound(), false);
            CHECK.due("isSound with a SHORT 32768", withNumber("shorts", k, 32768).isSound(), false);
            CHECK.due("isSound with a SHORT -32769", withNumber("shorts", k, -32769).isSound(), false);
            CHECK.due("isSound with a BYTE -128", withNumber("bytes", k, -128).isSound(), true);
            CHECK.due("isSound with a SHORT 32767", withNumber("shorts", k, 32767).isSound(), true);
        }
    }

    /** Told by hand from the document, so that a fault of Model's digest shows here. */
    private static void digest() throws ReflectiveOperationException {
        CHECK.due("digest of a new one", new Shortnumbers().digest(), byHand(new int[][] {
            {0, 0, 0, 0, 0}, {0, 0, 0, 0, 0}, {0, 0, -1, 0}, {0, 0, 0, 0, 0, 0, 0}, {0, 1237}, {},
            {0, 0, 0, 0, 0}, {0, 0, 0, 0, 0}, {0, 0, -1, 0}, {0, 0, 0, 0, 0, 0, 0}, {0, 1237}, {},
            {0, 0, 0, 0, 0}, {0, 0, 0, 0, 0}, {0, 0, -1, 0}, {0, 0, 0, 0, 0, 0, 0}, {0, 1237}, {},
            {0, 0, 0, 0, 0}, {0, 0, 0, 0, 0}, {0, 0, -1, 0}, {0, 0, 0, 0, 0, 0, 0}, {0, 1237}, {},
            {0, 0, 0, 0, 0, 0}, {0, 0, 0, 2, 36}, {1}}));
        CHECK.due("digest of a filled one", Check.filled().digest(), byHand(new int[][] {
            {-5, -5, 251, -5, 1}, {300, 44, 300, 300, 11265}, {65, 65, 10, 16640}, {0, 1, 1, 0, 1, 0, 0},
            {0, 1237}, {49, 50},
            {100, 100, 100, 100, 0}, {-32768, 0, 32768, -32768, 128}, {122, 122, 35, 31232},
            {0, 1, 1, 0, 0, 1, 0}, {1, 1231}, {45, 49, 102},
            {-128, -128, 128, -128, 1}, {32767, -1, 32767, 32767, -129}, {55, 55, 7, 14080},
            {1, 0, 1, 0, 0, 0, 0}, {1, 1231}, {116, 114, 117, 101},
            {127, 127, 127, 127, 0}, {-2, -2, 65534, -2, -257}, {32, 32, -1, 8192},
            {0, 0, 0, 1, 0, 0, 1}, {0, 1237}, {120},
            {-1, 1, 1, -1, -1, 1}, {1, 10, 2, 2, 36}, {1}}));
        Shortnumbers x = Check.filled();
        CHECK.due("digest changes nothing", x.digest(), x.digest());
        orders();
        CHECK.due("digest of an unsound one", withNumber("bytes", 3, 128).digest(), byHand(new int[][] {
            {0, 0, 0, 0, 0}, {0, 0, 0, 0, 0}, {0, 0, -1, 0}, {0, 0, 0, 0, 0, 0, 0}, {0, 1237},
            {0, 0, 0, 0, 0}, {0, 0, 0, 0, 0}, {0, 0, -1, 0}, {0, 0, 0, 0, 0, 0, 0}, {0, 1237},
            {0, 0, 0, 0, 0}, {0, 0, 0, 0, 0}, {0, 0, -1, 0}, {0, 0, 0, 0, 0, 0, 0}, {0, 1237},
            {128, 128, 128, 128, 0}, {0, 0, 0, 0, 0}, {0, 0, -1, 0}, {0, 0, 0, 0, 0, 0, 0}, {0, 1237},
            {0, 0, 0, 0, 0, 0}, {0, 0, 0, 2, 36}, {0}}));
    }

    /** Each pair that is compared stands here in another order than the pairs beside it. */
    private static void orders() {
        Shortnumbers x = new Shortnumbers();
        x.setByte(1, -1);
        x.setShort(1, 1);
        x.setSign(0, 48);
        x.setFlag(2, true);
        CHECK.due("digest with orders", x.digest(), byHand(new int[][] {
            {0, 0, 0, 0, 0}, {0, 0, 0, 0, 0}, {48, 48, 0, 12288}, {1, 0, 1, 0, 0, 0, 0}, {0, 1237},
            {-1, -1, 255, -1, 1}, {1, 1, 1, 1, 256}, {0, 0, -1, 0}, {0, 0, 0, 0, 0, 0, 0}, {0, 1237},
            {0, 0, 0, 0, 0}, {0, 0, 0, 0, 0}, {0, 0, -1, 0}, {0, 0, 0, 0, 0, 0, 0}, {1, 1231},
            {0, 0, 0, 0, 0}, {0, 0, 0, 0, 0}, {0, 0, -1, 0}, {0, 0, 0, 0, 0, 0, 0}, {0, 1237},
            {1, -1, -1, -1, 1, 1}, {0, 0, 1, 2, 36}, {1}}));
    }

    private static Shortnumbers withNumber(String row, int k, int number) throws ReflectiveOperationException {
        Shortnumbers x = new Shortnumbers();
        Field rows = Shortnumbers.class.getDeclaredField(row);
        rows.setAccessible(true);
        Field numbers = rows.get(x).getClass().getDeclaredField("numbers");
        numbers.setAccessible(true);
        ((int[]) numbers.get(rows.get(x)))[k] = number;
        return x;
    }

    private static long byHand(int[][] values) {
        long d = 7706;
        for (int[] row : values) {
            for (int v : row) {
                d = d * 31 + v;
            }
        }
        return d;
    }
}
