import java.lang.reflect.Constructor;
import java.lang.reflect.Field;
import java.lang.reflect.Method;
import java.lang.reflect.Modifier;
import java.util.Arrays;
import java.util.Comparator;
import java.util.Random;
import java.util.Set;
import java.util.TreeSet;

/** The public face is the document's and no more; and every method takes any arguments in any state, as the Model does. */
public final class FaceTest {
    private static final String[] FACE = {"int feed(int,long)", "int hall()", "int fault()", "int peg(int,int)", "int odds(int,int)",
        "int count(int)", "int guest(int,int,int,int)", "int told(int,int)", "int plan(boolean,int)", "int night(int,int,int,int,int)",
        "int learnt(int,int,int)", "int tonight(int,int)", "int hang(int,int,int,int)", "int give(int,int,int)", "int lose(int)",
        "int event(int,int)", "int astray()", "int chain(int,int)", "int ring(int)", "int exchanges()", "int wrong(int,int)",
        "int rush(int,int,int)", "int bestRow(int,int,int)", "int wanted(int,int)", "int claim(int,int,int)", "int fits(int)",
        "long ways()", "int sure(int)", "int grant(int)", "int apart(int,int)", "int asks(int)", "int keep(int)", "int goBack(int)"};
    private static final int[] WILD = {0, 1, -1, -2, 2, 3, 7, 8, 15, 16, 23, 24, 31, 32, 60, 99, 100, 255, 256, 9999, 10000,
        Integer.MAX_VALUE, Integer.MIN_VALUE, Integer.MIN_VALUE + 1, 1 << 16, 0xffff, 12345678};

    public static void main(String[] args) throws ReflectiveOperationException {
        members();
        for (int seed = 0; seed < 300; seed++) wildRun(new Random(seed));
        Due.end();
    }

    private static void members() {
        Due.is("public and final", CoatsHall.class.getModifiers() & (Modifier.PUBLIC | Modifier.FINAL), Modifier.PUBLIC | Modifier.FINAL);
        Set<String> face = new TreeSet<>(Set.of(FACE)), found = new TreeSet<>(), names = new TreeSet<>();
        for (Method m : CoatsHall.class.getDeclaredMethods()) if (!Modifier.isPrivate(m.getModifiers())) found.add(named(m));
        Due.is("methods " + found, found.equals(face) ? 1 : 0, 1);
        for (String line : FACE) names.add(line.substring(line.indexOf(' ') + 1, line.indexOf('(')));
        for (Method m : CoatsHall.class.getDeclaredMethods()) {
            if (Modifier.isPrivate(m.getModifiers())) Due.is("private " + m.getName(), names.contains(m.getName()) ? 1 : 0, 0);
        }
        for (Class<?> inside : CoatsHall.class.getDeclaredClasses()) {
            Due.is(inside + " is static", inside.getModifiers() & Modifier.STATIC, Modifier.STATIC);
            Due.is(inside + " is not public", inside.getModifiers() & (Modifier.PUBLIC | Modifier.PROTECTED), 0);
            for (Method m : inside.getDeclaredMethods()) Due.is(inside + "." + m.getName(), names.contains(m.getName()) ? 1 : 0, 0);
        }
        Set<String> constants = new TreeSet<>();
        for (Field f : CoatsHall.class.getDeclaredFields()) if (!Modifier.isPrivate(f.getModifiers())) constants.add(f.getName());
        Due.is("constants " + constants, constants.equals(Set.of("NONE", "UNKNOWN", "OUTSIDE", "NOT", "FULL")) ? 1 : 0, 1);
        Constructor<?>[] constructors = CoatsHall.class.getDeclaredConstructors();
        Due.is("constructors", constructors.length, 1);
        Due.is("public constructor", constructors[0].getModifiers() & Modifier.PUBLIC, Modifier.PUBLIC);
    }

    private static String named(Method m) {
        StringBuilder types = new StringBuilder();
        for (Class<?> type : m.getParameterTypes()) types.append(types.length() == 0 ? "" : ",").append(type.getName());
        return m.getReturnType().getName() + " " + m.getName() + "(" + types + ")";
    }

    /** Calls with arguments of any size on an object that has seen something already. */
    private static void wildRun(Random dice) throws ReflectiveOperationException {
        CoatsHall x = new CoatsHall();
        Model m = new Model();
        String text = "row 8 kind 0 walk 0;row 3 kind 1 walk 5;row 2 kind 2 walk 99;";
        for (int i = 0; i < text.length(); i++) {
            x.feed(1, text.charAt(i));
            m.feed(1, text.charAt(i));
        }
        if (dice.nextInt(6) > 0) Due.is("hall()", x.hall(), m.hall());
        Method[] methods = CoatsHall.class.getDeclaredMethods();
        // The machine names no order of its own.
        Arrays.sort(methods, Comparator.comparing(FaceTest::named));
        for (int calls = 0; calls < 450; calls++) {
            Method method = methods[dice.nextInt(methods.length)];
            if (!Modifier.isPublic(method.getModifiers())) continue;
            Class<?>[] types = method.getParameterTypes();
            Object[] values = new Object[types.length];
            for (int i = 0; i < types.length; i++) values[i] = wild(types[i], dice);
            long due = ((Number) Model.class.getDeclaredMethod(method.getName(), types).invoke(m, values)).longValue();
            long got = ((Number) method.invoke(x, values)).longValue();
            Due.is(method.getName() + Arrays.toString(values), got, due);
        }
    }

    private static Object wild(Class<?> type, Random dice) {
        if (type == boolean.class) return dice.nextBoolean();
        if (type == long.class) return dice.nextLong();
        int choice = dice.nextInt(10);
        return choice == 0 ? dice.nextInt() : choice < 4 ? WILD[dice.nextInt(WILD.length)] : dice.nextInt(5);
    }
}
