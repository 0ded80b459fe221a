import java.lang.reflect.InvocationTargetException;
import java.lang.reflect.Method;
import java.util.ArrayList;
import java.util.List;
import java.util.Random;
import java.util.function.Supplier;

/** No call throws, whatever its numbers are, in whatever state: each answer is a number, or a refusal that its promise names. */
public final class WildNumbersTest {
    private static final Check CHECK = new Check();
    private static final int[] NUMBERS = {Integer.MIN_VALUE, -100001, -2, -1, 0, 1, 2, 3, 5, 7, 8, 10, 20, 23, 24, 39, 40, 59, 60,
        999, 1000, 1001, 1500, Integer.MAX_VALUE};
    private static final long[] LONGS = {Long.MIN_VALUE, Integer.MIN_VALUE - 1L, -(1L << 32), -2, -1, 0, 1, 2, 23, 59, 1L << 31,
        1L << 32, (1L << 32) + 1, Long.MAX_VALUE};
    /** As many calls as are made on one object, with those that bring it into its state. */
    private static final int CALLS = 200, TRIES = 400;
    /** Which refusals each promise names: U, O, N, F. */
    private static final String[] REFUSALS = {"feed F", "cut O", "describe N", "place ", "count O", "node UF", "set UO", "field *",
        "letterAt U", "letter F", "hand OF", "open ", "desk F", "object UOF", "failure UOF", "beside UNF", "knows UN", "give UN",
        "release UN", "reference U", "told *", "call UNF", "state U", "value *", "letterOf U", "tree UO", "about UO", "slot U",
        "through U", "lose U", "twice U", "tick O", "restart UF", "audit UO", "supply UOF", "carry UONF", "stock UO"};

    private final Random random = new Random(7);

    public static void main(String[] args) throws IllegalAccessException {
        List<Supplier<RemoteDesks>> states = new ArrayList<>();
        states.add(RemoteDesks::new);
        states.add(() -> Make.withDesks(0));
        states.add(WildNumbersTest::some);
        states.add(WildNumbersTest::many);
        WildNumbersTest test = new WildNumbersTest();
        for (int s = 0; s < states.size(); s++) {
            CHECK.part("state " + s);
            for (Method m : RemoteDesks.class.getMethods()) {
                if (m.getDeclaringClass() == RemoteDesks.class) {
                    test.tryAll(m, states.get(s));
                }
            }
        }
        CHECK.end();
    }

    private static RemoteDesks some() {
        RemoteDesks x = Make.withDesks(2);
        x.node(0);
        x.node(1);
        x.failure(0, 0, -1);
        x.object(1, 0, Make.ECHO, 0, 0);
        x.object(1, 0, Make.FAIL, 0, 0);
        x.object(0, 0, Make.RELAY, 0, 7);
        x.give(0, 0);
        x.give(0, 1);
        x.supply(0, 0, 10);
        x.call(0, 0, 7);
        x.call(0, 1, 7);
        x.call(0, 2, 7);
        x.carry(0, 1, 0, 3);
        x.through(1);
        x.through(1);
        return x;
    }

    private static RemoteDesks many() {
        RemoteDesks x = Make.withDesks(8);
        for (int i = 0; i < 24; i++) {
            x.failure(0, i, -1);
            x.letter(i);
            x.object(i % 8, i % 3, i % 5 == 2 ? 0 : i % 5, i, 0);
            x.hand(0, i);
        }
        for (int i = 0; i < 60; i++) {
            x.node(i % 3);
        }
        x.supply(0, 0, 1000);
        for (int i = 0; i < 45; i++) {
            x.carry(0, 1, 0, 1);
        }
        return x;
    }

    private Object number(Class<?> type) {
        if (type == boolean.class) {
            return random.nextBoolean();
        }
        return type == long.class ? (Object) LONGS[random.nextInt(LONGS.length)] : (Object) NUMBERS[random.nextInt(NUMBERS.length)];
    }

    private void tryAll(Method m, Supplier<RemoteDesks> state) throws IllegalAccessException {
        RemoteDesks x = state.get();
        int wrong = 0;
        for (int i = 0; i < (m.getParameterCount() == 0 ? 5 : TRIES); i++) {
            if (i % CALLS == CALLS - 1) {
                x = state.get();
            }
            Object[] numbers = new Object[m.getParameterCount()];
            for (int k = 0; k < numbers.length; k++) {
                numbers[k] = number(m.getParameterTypes()[k]);
            }
            try {
                long answer = ((Number) m.invoke(x, numbers)).longValue();
                wrong += isNamed(m.getName(), answer) ? 0 : 1;
            } catch (InvocationTargetException e) {
                System.out.println(m.getName() + java.util.Arrays.toString(numbers) + ": " + e.getCause());
                wrong++;
            }
        }
        CHECK.due("answers of " + m.getName() + " that its promise does not name", wrong, 0);
    }

    private static boolean isNamed(String method, long answer) {
        for (String row : REFUSALS) {
            if (row.startsWith(method + " ")) {
                String named = row.substring(method.length() + 1);
                boolean fault = method.equals("describe") && answer >= -6 && answer <= -2;
                return named.equals("*") || answer >= -1 || fault
                    || answer == Check.UNKNOWN && named.contains("U") || answer == Check.OUTSIDE && named.contains("O")
                    || answer == Check.NOT && named.contains("N") || answer == Check.FULL && named.contains("F");
            }
        }
        return false;
    }
}
