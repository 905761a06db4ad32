import java.lang.reflect.Constructor;
import java.lang.reflect.Field;
import java.lang.reflect.Method;
import java.lang.reflect.Modifier;
import java.util.Arrays;
import java.util.Set;
import java.util.TreeSet;
import java.util.stream.Collectors;

/** The public face, and that every call on it answers, whatever its arguments and the state. */
public final class FaceTest {
    private static final String FACE = """
        int feed(int,int,int,int,int)
        int end(int)
        int town()
        int fault(int)
        int may(int,int,int)
        int lay(int,int,int)
        int take(int,int)
        int stone(int,int,int,int)
        int side(int,int)
        int pile(int)
        int spare(int,int)
        int slack(int)
        int fill(int,int)
        int leads()
        int would(int,int)
        int vote(int)
        int election(int)
        int result(int)
        int won(int)
        int votes(int,int)
        int still(int,int)
        int lost()
        int read(int)
        int hands(int)
        int ghosts(int)
        int pivot(int)
        int fetch(int,int)
        int margin(int,int)
        int cheap(int)
        int turn(int,int)
        int bribe(int)
        int tear(int)
        long gale(int)
        long falls(int)
        int power(int)
        int span(int,int,int)
        int oldest(int)
        int course(int,int)
        int rise(int,int,int)
        long mean(int)
        int storm(int)
        int run(int,int)
        int runs(int,int,int,int)
        int rule(int)
        int suits(int)
        int judge(int)
        int then(int)
        int count(int)
        int keep(int)
        int back(int)
        int row(int,int,int)
        int write(int,int,long)
        int paste(int,int,int,int,int)
        """;
    private static final int[] ODD_INTS = {0, 1, 2, -1, -2, 3, 7, 8, 9, 12, 13, 60, 61, 100, 999,
        1000, 1024, 65535, Integer.MAX_VALUE, Integer.MIN_VALUE};
    private static final long[] ODD_LONGS = {0, 10, 1010, -1, 128, 32768, Long.MAX_VALUE,
        Long.MIN_VALUE};

    private FaceTest() {
    }

    public static void main(String[] args) throws Exception {
        face();
        for (int seed = 1; seed <= 300; seed++) {
            oddCalls(new Dice(seed));
        }
        Script.finish();
    }

    private static void face() {
        Set<String> due = new TreeSet<>(Arrays.asList(FACE.strip().split("\n")));
        Set<String> got = new TreeSet<>();
        for (Method m : WallVotes.class.getDeclaredMethods()) {
            if (Modifier.isPublic(m.getModifiers())) {
                got.add(m.getReturnType() + " " + m.getName() + "(" + Arrays.stream(
                        m.getParameterTypes()).map(Class::getName).collect(Collectors.joining(",")) + ")");
            } else {
                require(Modifier.isPrivate(m.getModifiers()), "private: " + m);
            }
        }
        require(got.equals(due), "the methods: " + got);
        for (Field f : WallVotes.class.getDeclaredFields()) {
            require(Modifier.isPrivate(f.getModifiers()) || f.getName().equals("NONE"), "field " + f);
        }
        Constructor<?>[] constructors = WallVotes.class.getDeclaredConstructors();
        require(constructors.length == 1 && constructors[0].getParameterCount() == 0
                && Modifier.isPublic(constructors[0].getModifiers()), "the constructor");
        require(Modifier.isFinal(WallVotes.class.getModifiers()), "final");
        Script.due("the constant", "NONE", WallVotes.NONE, -1);
        for (Class<?> inside : WallVotes.class.getDeclaredClasses()) {
            require(Modifier.isStatic(inside.getModifiers())
                    && !Modifier.isPublic(inside.getModifiers())
                    && !Modifier.isProtected(inside.getModifiers()), "class " + inside);
        }
    }

    private static void require(boolean holds, String what) {
        Script.due("the face", what, holds ? 1 : 0, 1);
    }

    private static void oddCalls(Dice dice) throws Exception {
        WallVotes x = new WallVotes();
        Method[] methods = WallVotes.class.getDeclaredMethods();
        Arrays.sort(methods, (a, b) -> a.getName().compareTo(b.getName()));
        for (int i = 0; i < 400; i++) {
            if (i % 100 == 50) {
                Script.write(x, TownTexts.sound(dice, dice.chance(50)));
                x.town();
            }
            Method m = methods[dice.from(0, methods.length - 1)];
            if (!Modifier.isPublic(m.getModifiers())) {
                continue;
            }
            Object[] arguments = new Object[m.getParameterCount()];
            for (int a = 0; a < arguments.length; a++) {
                arguments[a] = m.getParameterTypes()[a] == long.class
                        ? (Object) ODD_LONGS[dice.from(0, ODD_LONGS.length - 1)]
                        : (Object) ODD_INTS[dice.from(0, dice.chance(50) ? 3 : ODD_INTS.length - 1)];
            }
            try {
                m.invoke(x, arguments);
            } catch (java.lang.reflect.InvocationTargetException e) {
                require(false, m.getName() + Arrays.toString(arguments) + " threw " + e.getCause());
            }
        }
    }
}
