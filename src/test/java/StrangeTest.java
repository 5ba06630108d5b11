import java.lang.reflect.InvocationTargetException;
import java.lang.reflect.Method;
import java.lang.reflect.Modifier;
import java.util.Arrays;

/** No call ever throws: each call of the face, with all mixes of strange numbers, in some states. */
public final class StrangeTest {
    private static final int[] NUMBERS = {Integer.MIN_VALUE, -7, -2, -1, 0, 1, 5, 6, 7, 60, 99999, Integer.MAX_VALUE};
    private static final String[] TEXTS = {"", "AB0.AC-0", "?B0?C0?D-0", "AB0?", "A".repeat(60), ".".repeat(60)};
    private static final int MANY_CALLS = 400;
    private static final Checks checks = new Checks();

    public static void main(String[] args) throws Exception {
        for (Method call : LieBridges.class.getDeclaredMethods()) {
            if (Modifier.isPublic(call.getModifiers())) {
                for (String text : TEXTS) {
                    everyMix(call, text);
                }
            }
        }
        checks.end("StrangeTest");
    }

    private static LieBridges made(String text) {
        LieBridges x = Checks.made("BA CA CB DC", "AB0BC1.CD2");
        x.seen(0, 1);
        x.image(0);
        x.plank(3, 0, 1, 5);
        Checks.say(x, text);
        return x;
    }

    private static void everyMix(Method call, String text) throws Exception {
        Class<?>[] types = call.getParameterTypes();
        int mixes = 1;
        for (int i = 0; i < types.length; i++) {
            mixes *= NUMBERS.length;
        }
        LieBridges x = null;
        for (int mix = 0; mix < mixes; mix++) {
            if (mix % MANY_CALLS == 0) {
                x = made(text);
            }
            Object[] numbers = new Object[types.length];
            int rest = mix;
            for (int i = 0; i < types.length; i++) {
                int number = NUMBERS[rest % NUMBERS.length];
                rest /= NUMBERS.length;
                numbers[i] = types[i] == boolean.class ? (Object) (number > 0) : (Object) number;
            }
            checks.due(call.getName() + Arrays.toString(numbers) + " with " + text + " throws",
                throwsSome(call, x, numbers), 0);
        }
    }

    private static int throwsSome(Method call, LieBridges x, Object[] numbers) throws Exception {
        try {
            call.invoke(x, numbers);
            return 0;
        } catch (InvocationTargetException thrown) {
            System.out.println(thrown.getCause());
            return 1;
        }
    }
}
