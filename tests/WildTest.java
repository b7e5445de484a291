import java.lang.reflect.InvocationTargetException;
import java.lang.reflect.Method;
import java.lang.reflect.Modifier;
import java.util.ArrayList;
import java.util.Comparator;
import java.util.List;
import java.util.Random;

/** Any call with any numbers in any state: the machine throws nothing, and two objects answer alike. */
final class WildTest {
    private static final int RUNS = 400, CALLS = 512;
    private static final int[] ODD = {Integer.MIN_VALUE, Integer.MIN_VALUE + 1, -1000, -2, -1, 0, 1, 400, 4095, 4096, 65536,
        Integer.MAX_VALUE - 1, Integer.MAX_VALUE};

    public static void main(String[] args) throws Exception {
        Check c = new Check();
        List<Method> methods = new ArrayList<>();
        for (Method method : GownLet.class.getDeclaredMethods()) {
            if (Modifier.isPublic(method.getModifiers())) {
                methods.add(method);
            }
        }
        methods.sort(Comparator.comparing(Method::getName));
        for (int run = 0; run < RUNS; run++) {
            Random random = new Random(run);
            GownLet x = new GownLet();
            GownLet y = new GownLet();
            for (int i = 0; i < CALLS; i++) {
                Method method = methods.get(random.nextInt(methods.size()));
                Object[] numbers = new Object[method.getParameterCount()];
                StringBuilder call = new StringBuilder(method.getName());
                for (int k = 0; k < numbers.length; k++) {
                    int number = random.nextInt(run % 4 + 2) == 0 ? ODD[random.nextInt(ODD.length)] : random.nextInt(run % 2 == 0 ? 12 : 120);
                    numbers[k] = method.getParameterTypes()[k] == long.class ? (Object) random.nextLong() : (Object) number;
                    call.append(' ').append(numbers[k]);
                }
                try {
                    c.due("run " + run + " call " + i + " " + call, (Integer) method.invoke(x, numbers), (Integer) method.invoke(y, numbers));
                } catch (InvocationTargetException thrown) {
                    c.due("run " + run + " call " + i + " " + call + " threw " + thrown.getCause(), 1, 0);
                }
            }
        }
        c.end();
    }
}
