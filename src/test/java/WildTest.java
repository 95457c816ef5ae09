import java.lang.reflect.InvocationTargetException;
import java.lang.reflect.Method;
import java.lang.reflect.Modifier;
import java.util.Random;

/** No call throws, whatever its arguments and the state: each method is called with the ends of its types and beside its bounds. */
public final class WildTest {
    private static final int[] ENDS = {Integer.MIN_VALUE, -1000, -2, -1, 0, 1, 2, 4, 5, 7, 8, 13, 14, 20, 31, 60, 61, 99, 100,
        2000000000, Integer.MAX_VALUE};
    private static final String HEAD = "street slam 20 bell 20 odds 5;";
    private static final String[] STREETS = {"", HEAD, HEAD + "day thaw 9;", HEAD + "eave sun 4;",
        HEAD + "eave sun 4;icicle at 0 length 99 hour 23;",
        HEAD + "day thaw 9;".repeat(14) + "eave sun 4;".repeat(5) + "icicle at 4 length 99 hour 23;".repeat(8) + "due hour 23 on 13;".repeat(6),
        HEAD + "day frost 9;".repeat(14) + "eave sun 0;" + "icicle at 0 length 1 hour 0;".repeat(8) + "due hour 0 on 0;".repeat(6)};
    private static final Random CHOICE = new Random(5L);

    public static void main(String[] args) throws IllegalAccessException {
        for (String text : STREETS) {
            for (Method method : IcicleClock.class.getDeclaredMethods()) {
                if (Modifier.isPublic(method.getModifiers())) {
                    callAtTheEnds(text, method);
                }
            }
        }
        Due.finish();
    }

    private static void callAtTheEnds(String text, Method method) throws IllegalAccessException {
        IcicleClock x = Due.street(text);
        Due.see(x, 0, 0, 0, 1, -1);
        x.row(1, 3, 60);
        x.row(2, 0, 0);
        x.image(0);
        int count = method.getParameterCount();
        int tries = count == 0 ? 3 : count == 1 ? ENDS.length : count == 2 ? ENDS.length * ENDS.length : 1500;
        boolean thrown = false;
        for (int k = 0; k < tries && !thrown; k++) {
            thrown = throwsBy(x, method, k, count <= 2);
        }
        Due.due(method.getName() + " threw, of " + text, thrown ? 1 : 0, 0);
    }

    private static boolean throwsBy(IcicleClock x, Method method, int k, boolean inOrder) throws IllegalAccessException {
        Class<?>[] types = method.getParameterTypes();
        Object[] given = new Object[types.length];
        int rest = k;
        for (int i = 0; i < given.length; i++) {
            int end = ENDS[inOrder ? rest % ENDS.length : CHOICE.nextInt(ENDS.length)];
            rest /= ENDS.length;
            given[i] = types[i] == long.class ? (Object) (long) end : (Object) end;
        }
        try {
            method.invoke(x, given);
            return false;
        } catch (InvocationTargetException thrown) {
            System.out.println(method.getName() + java.util.Arrays.toString(given) + " threw " + thrown.getCause());
            return true;
        }
    }
}
