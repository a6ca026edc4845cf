import java.lang.reflect.InvocationTargetException;
import java.lang.reflect.Method;
import java.util.Arrays;
import java.util.Random;

/** No call throws and every call ends, whatever its numbers are and in whatever state. */
public final class AnyNumbersTest {
    private static final int[] NUMBERS = {0, 1, -1, 2, 5, 6, 7, 9, 10, 11, 12, 40, 41, 96, 99, 100, 255,
        256, 999, 65536, Integer.MAX_VALUE, Integer.MAX_VALUE - 1, Integer.MIN_VALUE, Integer.MIN_VALUE + 1};
    private static final Check check = new Check();

    public static void main(String[] args) throws Exception {
        Random random = new Random(34);
        for (int run = 0; run < 600; run++) {
            EightOnIce x = new EightOnIce();
            for (int i = 0; i < run % 7; i++) {
                x.draw(i % 2, 1 + random.nextInt(9), 1 + random.nextInt(9));
            }
            for (int i = 0; i < 400; i++) {
                Method[] face = FaceTest.publicMethods();
                call(x, face[random.nextInt(face.length)], random);
            }
        }
        check.finish("AnyNumbersTest");
    }

    private static void call(EightOnIce x, Method method, Random random) throws Exception {
        Object[] numbers = new Object[method.getParameterCount()];
        for (int i = 0; i < numbers.length; i++) {
            numbers[i] = NUMBERS[random.nextInt(NUMBERS.length)];
        }
        int thrown = 0;
        try {
            method.invoke(x, numbers);
        } catch (InvocationTargetException e) {
            thrown = 1;
        }
        check.due(method.getName() + Arrays.toString(numbers) + " throws", thrown, 0);
    }
}
