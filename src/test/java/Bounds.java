import java.lang.reflect.InvocationTargetException;
import java.lang.reflect.Method;
import java.util.ArrayList;
import java.util.Arrays;
import java.util.Collections;
import java.util.Comparator;
import java.util.List;
import java.util.NoSuchElementException;
import java.util.function.Supplier;

/**
 * What a call takes: arguments that are answered, and of each number the least and the greatest that is, and the
 * exception for all others. Held against houses: answered at both ends, refused behind them (at the ends of int, too)
 * just as its face says, in the order in which its exceptions stand there; what is refused changes nothing.
 */
final class Bounds {
    private static final String PARTS = "layer sheet curve way owner place term room method claim right ticket";
    private static final List<Method> ASKING = asking();

    private final Supplier<DigHouse> house;
    private final Method call;
    private final Object[] good;
    private final int[] least;
    private final int[] most;
    private final Class<?>[] refused;

    private Bounds(Supplier<DigHouse> house, String name, Object[] good) {
        this.house = house;
        this.call = method(name);
        this.good = good;
        this.least = new int[good.length];
        this.most = new int[good.length];
        this.refused = new Class<?>[good.length];
        Arrays.fill(least, Integer.MIN_VALUE);
        Arrays.fill(most, Integer.MAX_VALUE);
    }

    /** A call that a new house of this kind answers with these arguments. */
    static Bounds of(Supplier<DigHouse> house, String name, Object... good) {
        return new Bounds(house, name, good);
    }

    private static Method method(String name) {
        for (Method m : DigHouse.class.getMethods()) {
            if (m.getDeclaringClass() == DigHouse.class && m.getName().equals(name)) {
                return m;
            }
        }
        throw new IllegalArgumentException("no call " + name);
    }

    Bounds index(int at, int least, int most) {
        return arg(at, least, most, IndexOutOfBoundsException.class);
    }

    Bounds element(int at, int least, int most) {
        return arg(at, least, most, NoSuchElementException.class);
    }

    Bounds argument(int at, int least, int most) {
        return arg(at, least, most, IllegalArgumentException.class);
    }

    /** An argument that is left as it is. */
    Bounds fixed(int at) {
        return arg(at, (Integer) good[at], (Integer) good[at], null);
    }

    private Bounds arg(int at, int from, int to, Class<?> thrown) {
        least[at] = from;
        most[at] = to;
        refused[at] = thrown;
        return this;
    }

    /** Holds for houses in which the call is answered. */
    Bounds hold() {
        due("nothing", house.get(), good);
        for (int i = 0; i < good.length; i++) {
            if (good[i] instanceof Integer) {
                due("nothing", house.get(), with(i, least[i]));
                due("nothing", house.get(), with(i, most[i]));
            }
        }
        refusals(house.get(), null);
        DigHouse cut = house.get();
        cut.cut(0);
        due(name(IllegalStateException.class), cut, good);
        for (int i = 0; i < good.length; i++) {
            for (int bad : behind(i)) {
                due(name(IllegalStateException.class), cut, with(i, bad));
            }
        }
        return this;
    }

    /** Holds for a house in whose state the call is refused, whatever its arguments. */
    Bounds full(Supplier<DigHouse> filled) {
        DigHouse x = filled.get();
        String before = dump(x);
        due(name(IllegalStateException.class), x, good);
        for (int i = 0; i < good.length; i++) {
            if (good[i] instanceof Integer) {
                due(name(IllegalStateException.class), x, with(i, least[i]));
                due(name(IllegalStateException.class), x, with(i, most[i]));
            }
        }
        Due.compare(before, dump(x));
        refusals(x, IllegalStateException.class);
        return this;
    }

    /** Each argument, and each two of them, beyond its bounds; the state may be wrong, too. */
    private void refusals(DigHouse x, Class<?> state) {
        String before = dump(x);
        for (int i = 0; i < good.length; i++) {
            for (int bad : behind(i)) {
                Object[] one = with(i, bad);
                due(name(first(state, refused[i])), x, one);
                for (int j = 0; j < i; j++) {
                    for (int worse : behind(j)) {
                        Object[] two = one.clone();
                        two[j] = worse;
                        due(name(first(state, first(refused[i], refused[j]))), x, two);
                    }
                }
            }
        }
        Due.compare(before, dump(x));
    }

    private Object[] with(int at, int v) {
        Object[] args = good.clone();
        args[at] = v;
        return args;
    }

    /** Numbers that are beyond an argument's bounds: just behind them, and at the ends of int. */
    private List<Integer> behind(int at) {
        List<Integer> bad = new ArrayList<>();
        if (refused[at] == null) {
            return bad;
        }
        if (least[at] > Integer.MIN_VALUE) {
            bad.add(least[at] - 1);
            bad.add(Integer.MIN_VALUE);
        }
        if (most[at] < Integer.MAX_VALUE) {
            bad.add(most[at] + 1);
            bad.add(Integer.MAX_VALUE);
        }
        return bad;
    }

    /** Which of two exceptions stands first behind the call's "throws". */
    private Class<?> first(Class<?> one, Class<?> other) {
        List<Class<?>> order = Arrays.asList(call.getExceptionTypes());
        if (one == null || other == null) {
            return one == null ? other : one;
        }
        return order.indexOf(one) <= order.indexOf(other) ? one : other;
    }

    private void due(String thrown, DigHouse x, Object[] args) {
        String told = call.getName() + Arrays.toString(args) + " throws ";
        Due.compare(told + thrown, told + thrown(x, call, args));
    }

    private static String name(Class<?> thrown) {
        return thrown.getName();
    }

    private static String thrown(DigHouse x, Method m, Object[] args) {
        try {
            m.invoke(x, args);
            return "nothing";
        } catch (InvocationTargetException e) {
            return e.getCause().getClass().getName();
        } catch (IllegalAccessException e) {
            return e.toString();
        }
    }

    private static List<Method> asking() {
        List<Method> all = new ArrayList<>();
        List<String> telling = Arrays.asList((ReopenTest.TELLING + " save cut reopen roomPlan").split(" "));
        for (Method m : DigHouse.class.getMethods()) {
            if (m.getDeclaringClass() == DigHouse.class && !telling.contains(m.getName())) {
                all.add(m);
            }
        }
        Collections.sort(all, Comparator.comparing(Method::getName));
        return all;
    }

    private static String part(String name) {
        for (String part : PARTS.split(" ")) {
            if (name.matches(part + "[A-Z].*")) {
                return part;
            }
        }
        return "";
    }

    /** What all asking calls of the call's part, or of all parts for a joined call, answer to small numbers. */
    private String dump(DigHouse x) {
        String part = part(call.getName());
        StringBuilder all = new StringBuilder();
        for (Method m : ASKING) {
            String own = part(m.getName());
            if (part.isEmpty() || own.isEmpty() || own.equals(part)) {
                ask(x, m, new Object[m.getParameterCount()], 0, all.append(m.getName()));
            }
        }
        return all.toString();
    }

    private static void ask(DigHouse x, Method m, Object[] args, int at, StringBuilder all) {
        if (at == args.length) {
            try {
                all.append(' ').append(m.invoke(x, args));
            } catch (InvocationTargetException e) {
                all.append(" !");
            } catch (IllegalAccessException e) {
                all.append(e);
            }
            return;
        }
        int most = args.length == 1 ? 31 : args.length == 2 ? 8 : 2;
        for (int v = -1; v <= most; v++) {
            args[at] = v;
            ask(x, m, args, at + 1, all);
        }
    }
}
