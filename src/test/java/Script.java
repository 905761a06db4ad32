import java.lang.reflect.Method;
import java.nio.charset.StandardCharsets;
import java.util.HashMap;
import java.util.Map;

/**
 * Runs calls that stand as text, one a line, on a new object, and tells each wrong answer:
 * <pre>
 *   may 0 1 2 = 1        a call, its arguments, the answer that is due
 *   tape wall wide 1     the TAPE is this text (~ is a line end)
 *   town wall .. = 4     the same, and then town()
 *   # ..                 a remark
 * </pre>
 */
final class Script {
    private static final Map<String, Method> METHODS = new HashMap<>();
    private static int wrong;

    static {
        for (Method m : WallVotes.class.getDeclaredMethods()) {
            METHODS.put(m.getName(), m);
        }
    }

    private Script() {
    }

    /** A run on a new object, which is given back for more. */
    static WallVotes run(String name, String lines) {
        WallVotes x = new WallVotes();
        go(x, name, lines);
        return x;
    }

    static void go(WallVotes x, String name, String lines) {
        for (String line : lines.split("\n")) {
            String call = line.strip();
            if (call.startsWith("tape ")) {
                write(x, call.substring(5).replace('~', '\n'));
            } else if (!call.isEmpty() && !call.startsWith("#")) {
                int sign = call.lastIndexOf(" = ");
                due(name, call, answer(x, call.substring(0, sign).strip()),
                        Long.parseLong(call.substring(sign + 3).strip()));
            }
        }
    }

    static void due(String name, String call, long got, long want) {
        if (got != want) {
            wrong++;
            System.out.println(name + ": " + call + " answered " + got + ", due is " + want);
        }
    }

    /** To be called last: ends the test with exit code 1 if an answer was wrong. */
    static void finish() {
        System.out.println(wrong == 0 ? "all answers are as due" : wrong + " answers are not as due");
        if (wrong != 0) {
            System.exit(1);
        }
    }

    static void write(WallVotes x, String text) {
        write(x, text.getBytes(StandardCharsets.ISO_8859_1));
    }

    static void write(WallVotes x, byte[] bytes) {
        x.end(0);
        for (int i = 0; i < bytes.length; i += 20) {
            int[] five = new int[5];
            for (int b = 0; b < 20; b++) {
                five[b / 4] = five[b / 4] << 8 | (i + b < bytes.length ? bytes[i + b] & 255 : 0);
            }
            x.feed(five[0], five[1], five[2], five[3], five[4]);
        }
        x.end(bytes.length);
    }

    private static long answer(WallVotes x, String call) {
        if (call.startsWith("town ")) {
            write(x, call.substring(5).replace('~', '\n'));
            return x.town();
        }
        String[] words = call.split(" +");
        Method method = METHODS.get(words[0]);
        Object[] arguments = new Object[words.length - 1];
        for (int i = 0; i < arguments.length; i++) {
            boolean isLong = method.getParameterTypes()[i] == long.class;
            arguments[i] = isLong ? (Object) Long.valueOf(words[i + 1])
                    : (Object) Integer.valueOf(words[i + 1]);
        }
        try {
            return ((Number) method.invoke(x, arguments)).longValue();
        } catch (ReflectiveOperationException e) {
            throw new IllegalStateException(call, e);
        }
    }
}
