import java.lang.reflect.InvocationTargetException;
import java.lang.reflect.Method;
import java.util.ArrayList;
import java.util.List;
import java.util.Random;

/** Every call with numbers near and far, in every state: answers as the plain model does, and nothing but led() throws. */
public final class ExtremesTest {
    private static final int[] NUMBERS = {Integer.MIN_VALUE, Integer.MIN_VALUE + 1, -1000, -3, -2, -1, 0, 1, 2, 3, 4, 5, 6, 8, 9, 10, 39, 40, 41,
        99, 100, 700, 9999, 10000, 65536, 65537, Integer.MAX_VALUE - 1, Integer.MAX_VALUE};
    private static final String[] TOWNS = {
        "baker a costs 99 fits 0 enters 999;baker b costs 0 fits 0 enters 0;baker c costs 5 fits 9 enters 1;"
            + "sort s new 99 worth 199 leaves 99 stays 100 far;sort t new 0 worth 0 leaves 0 stays 0 near;"
            + "sort u new 99 worth 199 leaves 0 stays 100 near;sort v new 7 worth 20 leaves 4 stays 33 far;prices two 0,100,199;keep 100",
        "baker a costs 0 fits 0 enters 0;baker b costs 0 fits 0 enters 0;sort s new 0 worth 0 leaves 0 stays 0 near;prices one 0;keep 0",
        "baker a costs 3 fits 1 enters 9;baker b costs 5 fits 2 enters 9;baker c costs 4 fits 1 enters 9;"
            + "sort s new 9 worth 30 leaves 6 stays 70 near;prices one 3,8,14;keep 90"};

    public static void main(String[] args) throws IllegalAccessException {
        List<Method> calls = new ArrayList<>();
        for (Method m : StayHouse.class.getDeclaredMethods()) {
            if (java.lang.reflect.Modifier.isPublic(m.getModifiers()) && !m.getName().equals("feed") && !m.getName().equals("town")) {
                calls.add(m);
            }
        }
        calls.sort((a, b) -> a.getName().compareTo(b.getName()));
        Random random = new Random(7);
        for (int run = 0; run < 24; run++) {
            StayHouse x = new StayHouse();
            Plain y = new Plain();
            if (run % 4 != 0) {
                open(x, y, TOWNS[run % 4 - 1]);
            }
            for (int i = 0; i < 1200; i++) {
                both(x, y, calls.get(random.nextInt(calls.size())), random);
            }
        }
        Check.end();
    }

    private static void open(StayHouse x, Plain y, String text) {
        Check.feed(y, text);
        Check.due("town", Check.town(x, text), y.town(text.length()));
    }

    private static void both(StayHouse x, Plain y, Method call, Random random) throws IllegalAccessException {
        Object[] numbers = new Object[call.getParameterCount()];
        for (int i = 0; i < numbers.length; i++) {
            // Half of them small, so that calls go through as well.
            numbers[i] = random.nextInt(3) > 0 ? random.nextInt(4) : NUMBERS[random.nextInt(NUMBERS.length)];
        }
        String said = call.getName() + java.util.Arrays.toString(numbers);
        long got;
        try {
            Object answer = call.invoke(x, numbers);
            got = answer instanceof Boolean b ? b ? 1 : 0 : ((Number) answer).longValue();
        } catch (InvocationTargetException e) {
            boolean told = call.getName().equals("led") && e.getCause().getClass() == java.util.NoSuchElementException.class;
            Check.due(said + " throws " + e.getCause(), told, true);
            got = StayHouse.NONE;
        }
        Check.due(said, got, plain(y, call, numbers));
        Check.due(said + " trouble", x.trouble(), y.trouble());
    }

    private static long plain(Plain y, Method call, Object[] numbers) throws IllegalAccessException {
        try {
            Method m = Plain.class.getDeclaredMethod(call.getName(), call.getParameterTypes());
            return (long) m.invoke(y, numbers);
        } catch (NoSuchMethodException | InvocationTargetException e) {
            throw new IllegalStateException(call.getName(), e);
        }
    }
}
