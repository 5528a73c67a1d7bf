import java.lang.reflect.InvocationTargetException;
import java.lang.reflect.Method;
import java.lang.reflect.Modifier;
import java.util.ArrayList;
import java.util.Comparator;
import java.util.List;
import java.util.Random;

/**
 * No call throws, whatever its arguments and whatever came ahead of it: calls by numbers at and beyond all limits. Here
 * alone objects go on behind their 512th call, where the answers are free, so that none is looked at.
 */
public final class WildCallsTest {
    private static final int OBJECTS = 60, CALLS = 6000;
    private static final int[] WILD = {Integer.MIN_VALUE, Integer.MIN_VALUE + 1, -100001, -9, -1, 0, 1, 2, 3, 4, 5, 6, 7, 8,
        9, 23, 24, 47, 48, 49, 95, 96, 1000, 99999, 100000, 100001, 101001, 1 << 30, Integer.MAX_VALUE - 1,
        Integer.MAX_VALUE};

    public static void main(String[] args) throws IllegalAccessException {
        List<Method> methods = new ArrayList<>();
        for (Method m : SeaCells.class.getDeclaredMethods()) {
            if (Modifier.isPublic(m.getModifiers())) methods.add(m);
        }
        methods.sort(Comparator.comparing(Method::getName));
        int thrown = 0;
        for (int object = 0; object < OBJECTS; object++) {
            Random random = new Random(object);
            SeaCells x = object % 2 == 0 ? new SeaCells() : Seas.rich();
            for (int i = 0; i < CALLS; i++) {
                Method m = methods.get(random.nextInt(methods.size()));
                // what makes all go is called seldom, or little would be there
                boolean rare = m.getName().equals("drop") || m.getName().equals("board") || m.getName().equals("forget");
                if (rare && random.nextInt(6) != 0) continue;
                Object[] with = drawn(m, random);
                try {
                    m.invoke(x, with);
                } catch (InvocationTargetException e) {
                    thrown++;
                    System.out.println(m.getName() + java.util.Arrays.toString(with) + " threw " + e.getCause());
                }
            }
        }
        System.out.println(thrown == 0 ? "no call threw" : thrown + " calls threw");
        if (thrown != 0) System.exit(1);
    }

    private static Object[] drawn(Method m, Random random) {
        Class<?>[] types = m.getParameterTypes();
        Object[] with = new Object[types.length];
        boolean wild = random.nextInt(3) == 0;
        for (int i = 0; i < types.length; i++) {
            if (types[i] == boolean.class) with[i] = random.nextBoolean();
            else if (wild) with[i] = WILD[random.nextInt(WILD.length)];
            else with[i] = random.nextInt(random.nextInt(3) == 0 ? 100 : 4);
        }
        return with;
    }
}
