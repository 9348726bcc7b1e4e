import java.lang.reflect.Constructor;
import java.lang.reflect.Field;
import java.lang.reflect.InvocationTargetException;
import java.lang.reflect.Method;
import java.lang.reflect.Modifier;
import java.util.ArrayList;
import java.util.Arrays;
import java.util.Comparator;
import java.util.HashMap;
import java.util.List;
import java.util.Map;
import java.util.Random;

// LANGUAGE.md, rule 7: an index is looked at before it is used. So no method inside the program throws,
// whatever numbers it gets, even in a house that no run of calls could leave behind.
public final class GuardsTest {
    private static final int[] NUMBERS = {
        Integer.MIN_VALUE, -100, -5, -4, -3, -2, -2, -2, -1, 0, 0, 1, 1, 2, 2, 3, 4, 5, 6, 7, 8, 9, 10, 11, 12, 13,
        23, 24, 25, 31, 32, 59, 60, 61, 119, 120, 121, 1000, Integer.MAX_VALUE};
    private static final int OBJECTS = 60, CALLS = 1500;

    private static final Map<Class<?>, List<Method>> METHODS = new HashMap<>();

    private static int wrong = 0;

    private static int number(Random dice) {
        return NUMBERS[dice.nextInt(NUMBERS.length)];
    }

    private static Object made(Class<?> type, Random dice) throws ReflectiveOperationException {
        Constructor<?> constructor = type.getDeclaredConstructors()[0];
        constructor.setAccessible(true);
        Object fresh = constructor.newInstance(numbersFor(constructor.getParameterTypes(), dice));
        for (Field f : type.getDeclaredFields()) {
            if (Modifier.isFinal(f.getModifiers())) continue;
            f.setAccessible(true);
            f.set(fresh, numberFor(f.getType(), dice));
        }
        return fresh;
    }

    private static Object numberFor(Class<?> type, Random dice) throws ReflectiveOperationException {
        if (type == int.class) return number(dice);
        if (type == long.class) return dice.nextBoolean() ? dice.nextLong() : (long) number(dice);
        if (type == boolean.class) return dice.nextBoolean();
        if (type.getSimpleName().equals("House")) return inside(type);
        return made(type, dice);
    }

    private static Object inside(Class<?> type) throws ReflectiveOperationException {
        Constructor<?> constructor = type.getDeclaredConstructors()[0];
        constructor.setAccessible(true);
        return constructor.newInstance();
    }

    private static Object[] numbersFor(Class<?>[] types, Random dice) throws ReflectiveOperationException {
        Object[] numbers = new Object[types.length];
        for (int i = 0; i < types.length; i++) numbers[i] = numberFor(types[i], dice);
        return numbers;
    }

    private static Object part(Object whole, String name) throws ReflectiveOperationException {
        Field f = whole.getClass().getDeclaredField(name);
        f.setAccessible(true);
        return f.get(whole);
    }

    // By name, as the machine tells methods in no order that is the same each time.
    private static List<Method> methodsOf(Class<?> type) {
        List<Method> all = new ArrayList<>();
        for (Method m : type.getDeclaredMethods()) {
            if (m.isSynthetic()) continue;
            m.setAccessible(true);
            all.add(m);
        }
        all.sort(Comparator.comparing(Method::toString));
        return all;
    }

    private static void tell(Method m, Object[] numbers, Throwable thrown) {
        wrong++;
        if (wrong <= 20) System.out.println(m + " with " + Arrays.toString(numbers) + " threw " + thrown);
    }

    private static void callAny(Object[] parts, Random dice) throws ReflectiveOperationException {
        Object part = parts[dice.nextInt(parts.length)];
        List<Method> methods = METHODS.computeIfAbsent(part.getClass(), GuardsTest::methodsOf);
        Method m = methods.get(dice.nextInt(methods.size()));
        Object[] numbers = numbersFor(m.getParameterTypes(), dice);
        try {
            m.invoke(part, numbers);
        } catch (InvocationTargetException e) {
            tell(m, numbers, e.getCause());
        }
    }

    private static void run(long seed) throws ReflectiveOperationException {
        Random dice = new Random(seed);
        Edits13 x = new Edits13();
        Object house = part(x, "now");
        Object[] parts = {x, house, part(house, "types"), part(house, "members")};
        for (int i = 0; i < 40; i++) {
            x.type(dice.nextInt(3) == 0, dice.nextBoolean() ? Edits13.NONE : dice.nextInt(6), dice.nextInt(4));
            x.face(dice.nextInt(12), dice.nextInt(12));
            x.method(dice.nextInt(12), dice.nextInt(3), dice.nextInt(12), Edits13.NONE, dice.nextInt(9), i);
            x.field(dice.nextInt(12), dice.nextInt(3), dice.nextInt(8), dice.nextInt(8), i);
        }
        for (int i = 0; i < CALLS; i++) callAny(parts, dice);
    }

    public static void main(String[] args) throws ReflectiveOperationException {
        for (int seed = 1; seed <= OBJECTS; seed++) run(seed);
        System.out.println(wrong == 0 ? "nothing was thrown" : wrong + " calls threw");
        if (wrong != 0) System.exit(1);
    }
}
