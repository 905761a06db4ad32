import java.lang.reflect.Method;
import java.util.ArrayList;
import java.util.List;
import java.util.Map;
import java.util.TreeMap;

/** The same calls on WallVotes and on PlainVotes: every answer must be the same. */
public final class ComparisonTest {
    /** What the arguments of each method are like. */
    private static final String[] CALLS = {
        "end tape", "town", "fault what", "may side column sort", "lay side column sort",
        "take side column", "stone side column high what", "side side what", "pile sort",
        "spare side column", "slack side", "fill side sort", "leads", "would voter what",
        "vote voter", "election set", "result set", "won year", "votes year side",
        "still year side", "lost", "read year", "hands voter", "ghosts side", "pivot what",
        "fetch side budget", "margin side budget", "cheap side", "turn side what", "bribe side",
        "tear side", "gale what", "falls fallen", "power voter", "span year side what",
        "oldest side", "course side high", "rise side column high", "mean side", "storm seed",
        "run seed years", "runs seed many years what", "rule what", "suits side", "judge slot",
        "then slot", "count all", "keep image", "back image", "row slot width numbers",
        "write slot number value", "paste slot number slot number numbers", "feed any any any any any",
    };

    private final Dice dice;
    private final WallVotes real = new WallVotes();
    private final PlainVotes plain = new PlainVotes();
    private final List<String> told = new ArrayList<>();
    private static final Map<String, Method> REAL = methods(WallVotes.class);
    private static final Map<String, Method> PLAIN = methods(PlainVotes.class);

    private ComparisonTest(long seed) {
        dice = new Dice(seed);
    }

    private static Map<String, Method> methods(Class<?> of) {
        Map<String, Method> all = new TreeMap<>();
        for (Method m : of.getDeclaredMethods()) {
            if (java.lang.reflect.Modifier.isPublic(m.getModifiers())) {
                all.put(m.getName(), m);
            }
        }
        return all;
    }

    public static void main(String[] args) throws Exception {
        int first = args.length > 0 ? Integer.parseInt(args[0]) : 1;
        int last = args.length > 1 ? Integer.parseInt(args[1]) : 3000;
        for (int seed = first; seed <= last; seed++) {
            if (!new ComparisonTest(seed).agree()) {
                System.out.println("seed " + seed + " does not agree");
                System.exit(1);
            }
        }
        System.out.println("all answers agree");
    }

    private boolean agree() throws Exception {
        boolean small = dice.chance(80);
        if (dice.chance(95) && !tell(TownTexts.sound(dice, small))) {
            return false;
        }
        // now and then near the end of all YEARS
        for (int i = dice.chance(5) ? 3 : 0; i > 0; i--) {
            if (!compare("run", dice.from(0, 1000000), dice.from(29, 30))) {
                return false;
            }
        }
        for (int i = dice.from(20, 300); i > 0; i--) {
            String[] call = CALLS[dice.from(0, CALLS.length - 1)].split(" ");
            boolean fine;
            if (call[0].equals("feed") || call[0].equals("town") || call[0].equals("end")) {
                fine = !dice.chance(20) || tell(dice.chance(75) ? TownTexts.spoilt(dice)
                        : TownTexts.sound(dice, small));
                fine = fine && (!dice.chance(10) || same(call));
            } else {
                fine = isTooDear(call[0]) || same(call);
            }
            // the WALL grows faster than the calls above would let it
            if (dice.chance(30)) {
                fine = fine && same(dice.one("lay side column sort", "vote voter",
                        "election set").split(" "));
            }
            if (!fine) {
                return false;
            }
        }
        return true;
    }

    /** PlainVotes goes through all there is, so some calls on high walls would take too long. */
    private boolean isTooDear(String name) {
        boolean galeLike = name.equals("gale") || name.equals("falls") || name.equals("mean");
        long ways = 1;
        int columns = 0;
        for (int side = 0; side < 2; side++) {
            long these = 1;
            for (int c = 0; c < real.count(0); c++) {
                int height = 0;
                while (real.stone(side, c, height, 0) >= 0) {
                    height++;
                }
                these *= height + 1;
                columns += height > 0 ? 1 : 0;
            }
            ways = Math.max(ways, these);
        }
        if (galeLike) {
            return columns > 9 && !dice.chance(2);
        }
        if (name.equals("turn") || name.equals("bribe")) {
            return real.count(0) * real.count(3) > 16 && !dice.chance(20);
        }
        return name.equals("tear") && ways > 3000;
    }

    private boolean tell(String text) throws Exception {
        told.add("TELL " + text);
        byte[] bytes = text.getBytes(java.nio.charset.StandardCharsets.ISO_8859_1);
        if (dice.chance(90) && !compare("end", 0)) {
            return false;
        }
        int before = real.count(8);
        for (int i = 0; i < bytes.length; i += 20) {
            Object[] five = new Object[5];
            for (int n = 0; n < 5; n++) {
                int number = 0;
                for (int b = 0; b < 4; b++) {
                    int at = i + 4 * n + b;
                    number = number << 8 | (at < bytes.length ? bytes[at] & 255 : 0);
                }
                five[n] = number;
            }
            if (!compare("feed", five)) {
                return false;
            }
        }
        return compare("end", before + bytes.length) && compare("town")
                && compare("fault", 0) && compare("fault", 1);
    }

    private boolean same(String[] call) throws Exception {
        Object[] arguments = new Object[call.length - 1];
        for (int i = 0; i < arguments.length; i++) {
            arguments[i] = argument(call[i + 1]);
        }
        return compare(call[0], arguments);
    }

    private Object argument(String kind) {
        if (kind.equals("value")) {
            long stone = 1000L * dice.from(0, 1) + 10L * dice.from(0, Math.max(0, real.count(0) - 1))
                    + dice.from(0, Math.max(0, real.count(3) - 1));
            return dice.chance(80) ? stone : dice.chance(50) ? stone + 256L * dice.from(-300, 300)
                    : (long) dice.from(-2000, 2000) * dice.from(-2000000, 2000000) * dice.from(0, 9);
        }
        if (dice.chance(1)) {
            return dice.from(0, 1) == 0 ? Integer.MIN_VALUE : Integer.MAX_VALUE;
        }
        boolean edge = dice.chance(6);
        return switch (kind) {
            case "side" -> edge ? dice.from(-1, 2) : dice.from(0, 1);
            case "column" -> within(edge, real.count(0));
            case "sort" -> within(edge, real.count(3));
            case "voter" -> within(edge, real.count(4));
            case "set" -> within(edge, 1 << real.count(4));
            case "year" -> within(edge, real.count(5));
            case "what" -> edge ? dice.from(-1, 5) : dice.from(0, 3);
            case "high" -> dice.from(edge ? -1 : 0, edge ? 13 : Math.max(1, real.count(1)));
            case "budget" -> edge ? dice.from(-1, 0) + dice.from(0, 1) * 1000 : dice.from(0, 200);
            case "fallen" -> edge ? dice.from(-1, 17) : dice.from(0, 6);
            case "seed" -> edge ? dice.from(1999999995, 2000000005) : dice.from(0, 2000000000);
            case "years" -> edge ? dice.from(-1, 32) : dice.from(1, 5);
            case "many" -> edge ? dice.from(-1, 22) : dice.from(1, 4);
            case "slot" -> edge ? dice.from(-1, 4) : dice.from(0, dice.from(0, 3));
            case "all" -> dice.from(-1, 13);
            case "image" -> edge ? dice.from(-1, 3) : dice.from(0, 1);
            case "width" -> edge ? dice.from(-1, 4) : dice.from(0, dice.from(0, 3));
            case "number" -> edge ? dice.from(-1, 61) : dice.from(0, 4);
            case "numbers" -> edge ? dice.from(-1, 61) : dice.from(0, 6);
            case "tape" -> dice.from(-1, 200);
            default -> dice.from(Integer.MIN_VALUE / 2, Integer.MAX_VALUE / 2);
        };
    }

    private int within(boolean edge, int size) {
        return edge || size == 0 ? dice.from(0, 1) * (size + 1) - 1 : dice.from(0, size - 1);
    }

    private boolean compare(String name, Object... arguments) throws Exception {
        StringBuilder line = new StringBuilder(name);
        for (Object a : arguments) {
            line.append(' ').append(a);
        }
        long due = ((Number) PLAIN.get(name).invoke(plain, arguments)).longValue();
        told.add(line + " = " + due);
        long got = ((Number) REAL.get(name).invoke(real, arguments)).longValue();
        if (got != due) {
            told.forEach(System.out::println);
            System.out.println(line + " answered " + got + ", due is " + due);
        }
        return got == due;
    }
}
