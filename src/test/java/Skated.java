import java.lang.reflect.Method;
import java.util.Arrays;
import java.util.HashMap;
import java.util.LinkedHashMap;
import java.util.Map;

/**
 * An object whose calls are told as texts, "lay(1, 11, 0, 3)"; MIN and MAX are the ends of int. Beside
 * single calls "feed w;" feeds each letter, "row 40 39" puts each number into the ROW. The calls are
 * counted: behind the 512th nothing is promised, so no test may go there.
 */
final class Skated {
    static final int MOST_CALLS = 512;
    private static final Map<String, Method> METHODS = new HashMap<>();
    private static final Map<String, Object[]> NUMBERS = new HashMap<>();

    private final EightOnIce object = new EightOnIce();
    private int calls;

    Skated(String... scene) {
        for (String told : scene) {
            tell(told);
        }
    }

    private void tell(String told) {
        if (told.startsWith("feed ")) {
            for (char letter : told.substring(5).toCharArray()) {
                ask("feed(" + (int) letter + ")");
            }
        } else if (told.startsWith("row ")) {
            for (String number : told.substring(4).split(" ")) {
                ask("row(" + number + ")");
            }
        } else {
            ask(told);
        }
    }

    long ask(String call) {
        calls++;
        if (calls > MOST_CALLS) {
            throw new IllegalStateException("call " + calls + " of an object: " + call);
        }
        try {
            return ((Number) methodOf(call).invoke(object, numbersOf(call))).longValue();
        } catch (ReflectiveOperationException e) {
            throw new IllegalStateException(call, e);
        }
    }

    private static Object[] numbersOf(String call) {
        return NUMBERS.computeIfAbsent(call, Skated::readNumbers);
    }

    private static Object[] readNumbers(String call) {
        String inside = call.substring(call.indexOf('(') + 1, call.length() - 1).trim();
        if (inside.isEmpty()) {
            return new Object[0];
        }
        return Arrays.stream(inside.split(", *")).map(Skated::readNumber).toArray();
    }

    private static Object readNumber(String number) {
        if (number.equals("MIN")) {
            return Integer.MIN_VALUE;
        }
        return number.equals("MAX") ? Integer.MAX_VALUE : Integer.parseInt(number);
    }

    private static Method methodOf(String call) throws NoSuchMethodException {
        String name = call.substring(0, call.indexOf('('));
        Method known = METHODS.get(name);
        if (known == null) {
            Class<?>[] ints = new Class<?>[numbersOf(call).length];
            Arrays.fill(ints, int.class);
            known = EightOnIce.class.getMethod(name, ints);
            METHODS.put(name, known);
        }
        return known;
    }

    /** All that can be seen without a change: each call with its answer. */
    Map<String, Long> seen() {
        Map<String, Long> seen = seenButRefusals();
        for (int what = 11; what <= 16; what++) {
            look(seen, "count(" + what + ")");
        }
        return seen;
    }

    private Map<String, Long> seenButRefusals() {
        Map<String, Long> seen = new LinkedHashMap<>();
        for (int what = 0; what <= 7; what++) {
            look(seen, "count(" + what + ")");
        }
        for (int what = 20; what <= 24; what++) {
            look(seen, "count(" + what + ")");
        }
        for (int hour = 0; hour < 12; hour++) {
            for (int patch = 0; patch < 2; patch++) {
                look(seen, "ice(" + patch + ", " + hour + ", 0)");
                look(seen, "ice(" + patch + ", " + hour + ", 1)");
            }
        }
        for (long trace = 0; trace < seen.get("count(0)"); trace++) {
            for (int what = 0; what <= 2; what++) {
                look(seen, "of(" + trace + ", " + what + ")");
            }
            for (int hour = 0; hour < 12; hour++) {
                look(seen, "trace(" + trace + ", " + hour + ")");
            }
        }
        return seen;
    }

    private void look(Map<String, Long> seen, String call) {
        seen.put(call, ask(call));
    }

    /**
     * What stands behind it, too: the ROW's numbers (told as TRACE 0 in the scenes), what the letters
     * tell, THE IMAGE. The object is used up by it.
     */
    Map<String, Long> wholly() {
        Map<String, Long> all = seen();
        look(all, all.get("count(0)") > 0 ? "judge(0)" : "clear()");
        look(all, "rink()");
        seenButRefusals().forEach((call, answer) -> all.put("behind rink() " + call, answer));
        look(all, "restore()");
        seenButRefusals().forEach((call, answer) -> all.put("behind restore() " + call, answer));
        return all;
    }
}
