import java.io.IOException;
import java.lang.reflect.InvocationTargetException;
import java.lang.reflect.Method;
import java.nio.file.Files;
import java.nio.file.Path;
import java.util.ArrayList;
import java.util.List;
import java.util.function.Supplier;
import java.util.regex.Matcher;
import java.util.regex.Pattern;

/**
 * Each "Throws" of the document: the least and the greatest argument that is refused and that is not,
 * which exception is the first one where several apply, and that nothing changes. Which arguments are
 * places and which have a last number is read from the document, promise by promise.
 */
public final class ThrowsEdgesTest {
    private static final Check CHECK = new Check("ThrowsEdgesTest");
    private static final Class<?> INDEX = IndexOutOfBoundsException.class;
    private static final Class<?> ARGUMENT = IllegalArgumentException.class;
    private static final Class<?> STATE = IllegalStateException.class;
    private static final Pattern PLACE = Pattern.compile("(?m)^- `(\\w+)`: (?:the|a) (?:BYTE|SHORT|SIGN|FLAG|TEXT)$");
    private static final Pattern LIMIT = Pattern.compile(
            "(?m)^Throws `IllegalArgumentException` if (\\w+) is not 0 (?:to|or) (\\d+)$");
    private static final Pattern SIGNATURE = Pattern.compile("`[\\w ]+? (\\w+)\\(([^)]*)\\)");
    private static final Pattern THROWS = Pattern.compile("(?m)^Throws `(\\w+)` if .*$");
    /** For an argument that is neither a place nor limited: a base, a value, a digit, a place in a TEXT. */
    private static final int FREE = -1;
    private static final List<Supplier<Shortnumbers>> OBJECTS = List.of(Shortnumbers::new, Check::filled, Check::full);

    private final Method method;
    private final int[] lasts;
    private final boolean[] arePlaces;

    private ThrowsEdgesTest(Method method, int[] lasts, boolean[] arePlaces) {
        this.method = method;
        this.lasts = lasts;
        this.arePlaces = arePlaces;
    }

    public static void main(String[] args) throws IOException {
        Sentences document = new Sentences(CHECK);
        String[] promises = Files.readString(Path.of("../shared/DOC.md")).split("\n(?=## )");
        List<ThrowsEdgesTest> methods = new ArrayList<>();
        int lines = 0;
        for (String promise : promises) {
            Matcher line = THROWS.matcher(promise);
            while (line.find()) {
                ThrowsEdgesTest one = read(promise);
                Class<?> thrown = classOf(line.group(1));
                int number = Integer.parseInt(promise.replaceAll("(?s)^## Promise (\\d+):.*", "$1"));
                document.hold(number, line.group(), () -> one.edges(thrown));
                lines++;
                if (thrown == INDEX || number == 43) {
                    methods.add(one);
                }
            }
        }
        CHECK.due("methods that throw", methods.size(), 42);
        CHECK.due("sentences that tell what is thrown", lines, 51);
        CHECK.due("places among all arguments", methods.stream().mapToInt(ThrowsEdgesTest::places).sum(), 67);
        CHECK.due("arguments with a last number", methods.stream().mapToInt(ThrowsEdgesTest::limited).sum(), 9);
        document.hold("Description", "A method that throws an exception changes nothing.",
                () -> methods.forEach(one -> one.all(true)));
        document.hold("Description", "If several exceptions apply, the one that is named first is thrown.",
                () -> methods.forEach(one -> one.all(false)));
        CHECK.end();
    }

    private static Class<?> classOf(String name) {
        for (Class<?> one : List.of(INDEX, ARGUMENT, STATE)) {
            if (one.getSimpleName().equals(name)) {
                return one;
            }
        }
        throw new IllegalStateException("the document names no such exception: " + name);
    }

    private static ThrowsEdgesTest read(String promise) {
        Matcher signature = SIGNATURE.matcher(promise);
        CHECK.due("a signature was found", signature.find(), true);
        String[] told = signature.group(2).split(", ");
        int[] lasts = new int[told.length];
        boolean[] arePlaces = new boolean[told.length];
        for (int i = 0; i < told.length; i++) {
            String name = told[i].split(" ")[1];
            arePlaces[i] = tells(PLACE, promise, name) != null;
            Matcher limit = tells(LIMIT, promise, name);
            lasts[i] = arePlaces[i] ? 3 : limit != null ? Integer.parseInt(limit.group(2)) : FREE;
        }
        for (Method one : Shortnumbers.class.getDeclaredMethods()) {
            if (one.getName().equals(signature.group(1))) {
                return new ThrowsEdgesTest(one, lasts, arePlaces);
            }
        }
        throw new IllegalStateException("no such method: " + signature.group(1));
    }

    private static Matcher tells(Pattern pattern, String promise, String name) {
        Matcher matcher = pattern.matcher(promise);
        while (matcher.find()) {
            if (matcher.group(1).equals(name)) {
                return matcher;
            }
        }
        return null;
    }

    private int places() {
        int count = 0;
        for (boolean isPlace : arePlaces) {
            count += isPlace ? 1 : 0;
        }
        return count;
    }

    private int limited() {
        int count = 0;
        for (int i = 0; i < lasts.length; i++) {
            count += !arePlaces[i] && lasts[i] != FREE ? 1 : 0;
        }
        return count;
    }

    /** One argument after the other at its edges, all others in order, for one of the exceptions. */
    private void edges(Class<?> thrown) {
        if (thrown == STATE) {
            fullness();
            return;
        }
        for (int i = 0; i < lasts.length; i++) {
            if (lasts[i] == FREE || arePlaces[i] != (thrown == INDEX)) {
                continue;
            }
            int last = lasts[i];
            for (int number : new int[] {Integer.MIN_VALUE, -1, last + 1, Integer.MAX_VALUE}) {
                asks(Check::filled, with(i, number), thrown);
            }
            for (int number = 0; number <= last; number++) {
                asks(Check::filled, with(i, number), null);
            }
        }
    }

    /** Only write() throws by what the object is. */
    private void fullness() {
        for (int signs = 0; signs <= 20; signs++) {
            String text = Check.TWENTY.substring(0, signs);
            for (int k = 0; k < 4; k++) {
                int place = k;
                asks(() -> Check.type(Check.filled(), place, text), new Object[] {k, 65}, signs == 20 ? STATE : null);
            }
        }
    }

    private Object[] with(int i, int number) {
        Object[] args = new Object[lasts.length];
        for (int other = 0; other < args.length; other++) {
            boolean isFlag = method.getParameterTypes()[other] == boolean.class;
            args[other] = isFlag ? (Object) false : other == i ? number : lasts[other] == 127 ? 65 : 0;
        }
        return args;
    }

    /** All edges of all arguments with one another; areTold: whether the state is looked at, or what is thrown. */
    private void all(boolean isState) {
        for (Supplier<Shortnumbers> maker : OBJECTS) {
            all(maker, isState, new Object[lasts.length], 0);
        }
    }

    private void all(Supplier<Shortnumbers> maker, boolean isState, Object[] args, int i) {
        if (i < args.length) {
            for (Object edge : edgesOf(i)) {
                args[i] = edge;
                all(maker, isState, args, i + 1);
            }
            return;
        }
        Class<?> want = due(args, maker);
        if (!isState) {
            CHECK.due(told(args), outcome(maker.get(), args), want);
        } else if (want != null) {
            Shortnumbers x = maker.get();
            outcome(x, args);
            CHECK.due(told(args) + ", then the state", Check.state(x), Check.state(maker.get()));
        }
    }

    private Object[] edgesOf(int i) {
        if (method.getParameterTypes()[i] == boolean.class) {
            return new Object[] {false, true};
        }
        if (lasts[i] == FREE) {
            return new Object[] {Integer.MIN_VALUE, -1, 0, 36, 37, Integer.MAX_VALUE};
        }
        return new Object[] {Integer.MIN_VALUE, -1, 0, lasts[i], lasts[i] + 1, Integer.MAX_VALUE};
    }

    /** The exception that the document names first among those that apply, or null. */
    private Class<?> due(Object[] args, Supplier<Shortnumbers> maker) {
        boolean isAPlaceWrong = false;
        boolean isAnotherWrong = false;
        for (int i = 0; i < args.length; i++) {
            boolean isWrong = lasts[i] != FREE && ((int) args[i] < 0 || (int) args[i] > lasts[i]);
            isAPlaceWrong |= isWrong && arePlaces[i];
            isAnotherWrong |= isWrong && !arePlaces[i];
        }
        if (isAPlaceWrong || isAnotherWrong) {
            return isAPlaceWrong ? INDEX : ARGUMENT;
        }
        boolean isFull = method.getName().equals("write") && maker.get().text((int) args[0]).length() == 20;
        return isFull ? STATE : null;
    }

    private void asks(Supplier<Shortnumbers> maker, Object[] args, Class<?> want) {
        Shortnumbers x = maker.get();
        CHECK.due(told(args), outcome(x, args), want);
        if (want != null) {
            CHECK.due(told(args) + ", then the state", Check.state(x), Check.state(maker.get()));
        }
    }

    private String told(Object[] args) {
        return method.getName() + List.of(args);
    }

    /** What the call throws, or null. */
    private Class<?> outcome(Shortnumbers x, Object[] args) {
        try {
            method.invoke(x, args);
            return null;
        } catch (InvocationTargetException e) {
            return e.getCause().getClass();
        } catch (IllegalAccessException e) {
            throw new IllegalStateException(e);
        }
    }
}
