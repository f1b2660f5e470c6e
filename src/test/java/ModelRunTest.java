import java.lang.reflect.InvocationTargetException;
import java.lang.reflect.Method;
import java.util.ArrayList;
import java.util.Comparator;
import java.util.List;
import java.util.Map;

/** Long mixed runs of all calls: the same runs each time, compared with Model call by call. */
public final class ModelRunTest {
    private static final int RUNS = 1500;
    private static final int CALLS = 512;
    private static final Check CHECK = new Check("ModelRunTest");

    /** How the arguments of a method are picked: k place, s sign, v value, p place of a text, b base, w what. */
    private static final Map<String, String> KINDS = Map.ofEntries(
            Map.entry("write", "ks"), Map.entry("signOf", "kkp"), Map.entry("setByte", "kv"),
            Map.entry("setShort", "kv"), Map.entry("parseByteBy", "kkb"), Map.entry("parseShortBy", "kkb"),
            Map.entry("writeByte", "kkb"), Map.entry("writeShort", "kkb"), Map.entry("ofByte", "kw"),
            Map.entry("ofShort", "kw"), Map.entry("setSign", "ks"), Map.entry("ofSign", "kw"),
            Map.entry("isSign", "kw"), Map.entry("digit", "kb"), Map.entry("forDigit", "kbb"),
            Map.entry("join", "kkkw"), Map.entry("ofFlag", "kw"), Map.entry("house", "w"));

    private static final int[] EDGES = {0, 1, -1, 127, 128, -128, -129, 255, 256, 32767, 32768, -32768, -32769,
        65535, 65536, Integer.MAX_VALUE, Integer.MIN_VALUE};
    private static final String[] AHEAD = {"", "", "+", "-", "0", "0x", "0X", "#", "-0x", "+#", "-0", "--", "00"};
    private static final String SIGNS = "0123456789abcdefzABCDEFZ+-#xX \t@[`{/:";
    private static final String[] WORDS = {"true", "TRUE", "tRuE", "false", "truE ", "tru"};

    private static long seed = 20261118;

    public static void main(String[] args) throws IllegalAccessException, NoSuchMethodException {
        List<Method> methods = new ArrayList<>(List.of(Shortnumbers.class.getDeclaredMethods()));
        methods.removeIf(one -> !java.lang.reflect.Modifier.isPublic(one.getModifiers()));
        methods.sort(Comparator.comparing(Method::getName));
        CHECK.due("the number of methods", methods.size(), 45);
        List<Method> ofModel = new ArrayList<>();
        for (Method one : methods) {
            ofModel.add(Model.class.getMethod(one.getName(), one.getParameterTypes()));
        }
        for (int run = 0; run < RUNS; run++) {
            run(run, methods, ofModel);
        }
        CHECK.end();
    }

    private static void run(int run, List<Method> methods, List<Method> ofModel)
            throws IllegalAccessException {
        Shortnumbers x = new Shortnumbers();
        Model model = new Model();
        int calls = 0;
        while (calls < CALLS - 1) {
            if (pick(4) == 0 && calls + 22 < CALLS) {
                calls += type(run, x, model);
            } else {
                int i = pick(methods.size());
                Object[] args = arguments(methods.get(i));
                String call = "run " + run + ", call " + calls + " " + methods.get(i).getName()
                        + List.of(args);
                CHECK.due(call, answer(methods.get(i), x, args), answer(ofModel.get(i), model, args));
                calls++;
            }
        }
        CHECK.due("run " + run + ", digest", x.digest(), model.digest());
    }

    /** Writes a text that is, or nearly is, a numeral or a word; answers how many calls that took. */
    private static int type(int run, Shortnumbers x, Model model) {
        int text = pick(4);
        String signs = signs();
        CHECK.due("run " + run + ", clear", x.clear(text), model.clear(text));
        for (int place = 0; place < signs.length(); place++) {
            CHECK.due("run " + run + ", write", x.write(text, signs.charAt(place)),
                    model.write(text, signs.charAt(place)));
        }
        return signs.length() + 1;
    }

    private static String signs() {
        if (pick(8) == 0) {
            return WORDS[pick(WORDS.length)];
        }
        StringBuilder signs = new StringBuilder(AHEAD[pick(AHEAD.length)]);
        if (pick(2) == 0) {
            int near = EDGES[pick(EDGES.length)] + pick(3) - 1;
            signs.append(Integer.toString(near & 131071, 2 + pick(35)));
        } else {
            int count = pick(6) == 0 ? 17 : pick(6);
            for (int i = 0; i < count; i++) {
                signs.append(SIGNS.charAt(pick(pick(3) == 0 ? SIGNS.length() : 16)));
            }
        }
        return signs.substring(0, Math.min(20, signs.length()));
    }

    private static Object[] arguments(Method method) {
        Class<?>[] types = method.getParameterTypes();
        String kinds = KINDS.getOrDefault(method.getName(), "kkkk");
        Object[] args = new Object[types.length];
        for (int i = 0; i < types.length; i++) {
            args[i] = types[i] == boolean.class ? (Object) (pick(2) == 0) : argument(kinds.charAt(i));
        }
        return args;
    }

    private static int argument(char kind) {
        if (pick(25) == 0) {
            return EDGES[pick(EDGES.length)];
        }
        switch (kind) {
            case 's':
                return pick(130) - 1;
            case 'v':
                return pick(3) == 0 ? EDGES[pick(EDGES.length)] + pick(3) - 1 : pick(200000) - 100000;
            case 'p':
                return pick(22) - 1;
            case 'b':
                return pick(3) == 0 ? new int[] {2, 8, 10, 16, 36}[pick(5)] : pick(40) - 1;
            case 'w':
                return pick(9) - 1;
            default:
                return pick(30) == 0 ? 4 : pick(4);
        }
    }

    private static Object answer(Method method, Object object, Object[] args) throws IllegalAccessException {
        try {
            return method.invoke(object, args);
        } catch (InvocationTargetException e) {
            return e.getCause().getClass();
        }
    }

    /** A number from 0 to below the bound, by a fixed row of numbers: no random source. */
    private static int pick(int bound) {
        seed = seed * 6364136223846793005L + 1442695040888963407L;
        return (int) ((seed >>> 33) % bound);
    }
}
