import java.lang.reflect.Method;
import java.util.ArrayList;
import java.util.Arrays;
import java.util.Comparator;
import java.util.List;
import java.util.Random;

/** Two houses are told the same, but one of them is asked for much that it refuses, too: they answer alike all the same. */
public final class RefusedTest {
    private static final int RUNS = 120;
    private static final int CALLS = 450;

    public static void main(String[] args) throws Exception {
        List<Method> calls = new ArrayList<>();
        for (Method m : DigHouse.class.getMethods()) {
            if (m.getDeclaringClass() == DigHouse.class && !m.getName().matches("cut|reopen")) {
                calls.add(m);
            }
        }
        calls.sort(Comparator.comparing(Method::getName));
        int refused = 0;
        for (int seed = 0; seed < RUNS; seed++) {
            refused += run(new Random(seed), calls, seed % 2 == 0);
        }
        Due.compare("true", String.valueOf(refused > RUNS * 50));
        Due.end();
    }

    /** How many calls were refused. */
    private static int run(Random random, List<Method> calls, boolean prepared) throws Exception {
        DigHouse troubled = new DigHouse();
        DigHouse calm = new DigHouse();
        if (prepared) {
            FuzzTest.prepare(troubled);
            FuzzTest.prepare(calm);
        }
        int refused = 0;
        for (int i = 0; i < CALLS; i++) {
            if (random.nextInt(10) == 0) {
                long seed = random.nextLong();
                Due.compare(FuzzTest.feed(troubled, new Random(seed)), FuzzTest.feed(calm, new Random(seed)));
                continue;
            }
            Method m = calls.get(random.nextInt(calls.size()));
            Object[] args = arguments(m, random);
            String answer = FuzzTest.answer(troubled, m, args);
            if (answer.contains("Exception")) {
                refused++;
            } else {
                String told = m.getName() + Arrays.toString(args) + " ";
                Due.compare(told + answer, told + FuzzTest.answer(calm, m, args));
            }
        }
        Due.is(calm.had(4), () -> troubled.had(4));
        return refused;
    }

    private static Object[] arguments(Method m, Random random) {
        Object[] args = new Object[m.getParameterCount()];
        for (int i = 0; i < args.length; i++) {
            args[i] = m.getParameterTypes()[i] == boolean.class ? (Object) random.nextBoolean() : (Object) FuzzTest.number(random);
        }
        return args;
    }
}
