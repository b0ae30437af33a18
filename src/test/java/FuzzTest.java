import java.lang.reflect.InvocationTargetException;
import java.lang.reflect.Method;
import java.util.ArrayList;
import java.util.Arrays;
import java.util.Comparator;
import java.util.List;
import java.util.Random;

/**
 * Random runs of calls: no call throws but what its face names, just of that class; a house that is made again from
 * its rows answers as it did; a refused call changes nothing; the same calls give the same answers.
 */
public final class FuzzTest {
    private static final List<Method> ALL = new ArrayList<>();
    private static final List<Method> ASKING = new ArrayList<>();
    private static final int[] LURES = {-2, -1, 0, 1, 2, 3, 5, 7, 9, 11, 12, 15, 16, 23, 24, 31, 32, 39, 40, 60, 99, 100, 999,
        1000, 3600, 20000, 60000, 100000, 1000000, Integer.MAX_VALUE, Integer.MIN_VALUE};
    private static final String[] TEXTS = {"a<5;y>0|b=3&!(c>1|d<2)", "!!(a=1&b=2)|h>999999", "u1*5,b3,x0,a0:24,t,i", "u0*1", "",
        "a0:0", "x1", "0=500,1=800,g3-10,g5-20", "g1-100,4=99999", "0:400+10;1:390+20;2:380+5;11:3000+100", "s", "m r0", "a !g k1",
        "s c3 !p2 f4", "#@$x", "z=1", "y<2;z=0;a>1;b<2;c=3;d>4"};

    public static void main(String[] args) throws Exception {
        for (Method m : DigHouse.class.getMethods()) {
            if (m.getDeclaringClass() == DigHouse.class) {
                ALL.add(m);
            }
        }
        ALL.sort(Comparator.comparing(Method::getName));
        DigHouse fresh = new DigHouse();
        for (Method m : ALL) {
            if (!m.getName().matches("cut|reopen|save") && !tells(m)) {
                ASKING.add(m);
            }
        }
        Due.compare("227", String.valueOf(ALL.size()));
        Due.compare("111", String.valueOf(ASKING.size()));
        for (int seed = 0; seed < 150; seed++) {
            run(seed);
        }
        Due.end();
    }

    /** Whether a call can become a row: told by the number of rows behind a few calls with likely arguments. */
    private static boolean tells(Method m) throws Exception {
        for (int seed = 0; seed < 40; seed++) {
            DigHouse house = new DigHouse();
            Random random = new Random(seed);
            prepare(house);
            for (int i = 0; i < 12; i++) {
                int before = house.had(4);
                call(house, m, random);
                if (house.had(4) != before) {
                    return true;
                }
            }
        }
        return false;
    }

    static void prepare(DigHouse house) {
        for (int i = 0; i < 5; i++) {
            house.context();
            house.find(i, i % 4, i % 2 == 0 ? -1 : 3);
            house.place(i == 0 ? -1 : i - 1, 100000 - 10000 * i);
            house.object(i, 50 + i * 10, 60 + i * 10, 70 + i * 10, 1000 * (i + 1));
            house.placeBox(i);
            house.carry(i, i, 0, 0);
            house.rightPerson(i == 0 ? 255 : i);
            house.claimSource(i, i);
            house.claimNew();
            house.curveRow(i, 400 - i, 10);
            house.ticketSlot(3);
        }
        for (int i = 0; i < 6; i++) {
            house.curveDate(390 + i, 20);
            house.methodPart(i % 5, i);
        }
        house.layerRelate(0, 1, 0);
        house.layerRelate(1, 2, 2);
        house.room(0);
        house.room(3);
        house.dated(0, 0);
        house.dated(1, 1);
        house.solve();
        house.draw(2);
        house.ticketSell(0, 2, 1);
        house.ownerRow(0, 1, 0, 10, 0);
        house.ownerClaim(4, 1, 100);
        house.layerGroup();
        house.roomRule(0, 0, 10, 1);
        house.termUnit(97);
        house.termUnit(60);
        house.termUnit(57);
        house.termRead();
        house.methodRead();
        house.rightUnit(115, 0, 0, 0);
        house.rightRule();
        house.placeDoor(0, 1, 100, 200);
        house.hour(10000, 8000);
        house.roomSensor(0, 0, 7);
        house.lend(0, 0, 0, 9);
        house.termRequest(0, 0, 9);
        house.ticketWaits(0, 1, 1);
    }

    private static void run(int seed) throws Exception {
        Random random = new Random(seed);
        DigHouse house = new DigHouse();
        DigHouse twin = new DigHouse();
        Random other = new Random(seed);
        if (seed % 3 != 0) {
            prepare(house);
            prepare(twin);
        }
        int most = 130 + random.nextInt(200);
        other.nextInt(200);
        for (int i = 0; i < most; i++) {
            Due.compare(step(house, random), step(twin, other));
        }
        int rows = house.save();
        twin.save();
        String before = dump(house);
        same(before, dump(twin));
        Due.compare(String.valueOf(rows), String.valueOf(house.cut(0)));
        Due.compare(String.valueOf(rows), String.valueOf(house.reopen()));
        same(before, dump(house));
    }

    /** Compares line by line, so that the first other answer is told. */
    private static void same(String want, String got) {
        String[] wanted = want.split("\n");
        String[] gotten = got.split("\n");
        for (int i = 0; i < wanted.length && i < gotten.length; i++) {
            if (!wanted[i].equals(gotten[i])) {
                Due.compare(wanted[i], gotten[i]);
                return;
            }
        }
        Due.compare(String.valueOf(wanted.length), String.valueOf(gotten.length));
    }

    private static String step(DigHouse house, Random random) throws Exception {
        if (random.nextInt(12) == 0) {
            return feed(house, random);
        }
        Method m = ALL.get(random.nextInt(ALL.size()));
        if (m.getName().matches("cut|reopen")) {
            return "";
        }
        return m.getName() + call(house, m, random);
    }

    /** Brings a text to a pad, and has it read. */
    static String feed(DigHouse house, Random random) {
        String text = TEXTS[random.nextInt(TEXTS.length)];
        int which = random.nextInt(6);
        StringBuilder answers = new StringBuilder();
        try {
            for (char c : text.toCharArray()) {
                switch (which) {
                    case 0: house.termUnit(c); break;
                    case 1: house.methodUnit(c); break;
                    case 2: house.ticketUnit(c); break;
                    case 3: house.curveUnit(c, 0); break;
                    case 4: house.rightUnit(c, 0, 0, 0); break;
                    default: house.claimUnit(c); break;
                }
            }
            switch (which) {
                case 0: answers.append(house.termRead()); break;
                case 1: answers.append(house.methodRead()); break;
                case 2: answers.append(house.ticketRules()); break;
                case 3: answers.append(house.curveRead()); break;
                case 4: answers.append(house.rightRule()); break;
                default: answers.append(house.claimForm(random.nextInt(4))); break;
            }
        } catch (IllegalStateException | IllegalArgumentException e) {
            answers.append(e.getClass().getName());
        }
        return answers.toString();
    }

    static String call(DigHouse house, Method m, Random random) throws Exception {
        Object[] args = new Object[m.getParameterCount()];
        Class<?>[] types = m.getParameterTypes();
        for (int i = 0; i < args.length; i++) {
            args[i] = types[i] == boolean.class ? (Object) random.nextBoolean() : (Object) number(random);
        }
        return Arrays.toString(args) + answer(house, m, args);
    }

    static int number(Random random) {
        int dice = random.nextInt(20);
        if (dice < 12) {
            return random.nextInt(6);
        }
        if (dice < 16) {
            return random.nextInt(130);
        }
        if (dice < 17) {
            return random.nextInt(40000) - 10000;
        }
        return LURES[random.nextInt(LURES.length)];
    }

    static String answer(DigHouse house, Method m, Object[] args) throws Exception {
        try {
            return String.valueOf(m.invoke(house, args));
        } catch (InvocationTargetException e) {
            Class<?> thrown = e.getCause().getClass();
            if (!Arrays.asList(m.getExceptionTypes()).contains(thrown)) {
                Due.compare("an exception of its face", m + Arrays.toString(args) + " threw " + e.getCause());
                e.getCause().printStackTrace(System.out);
            }
            return thrown.getName();
        }
    }

    /** The answers of all asking calls, each with some arguments. */
    private static String dump(DigHouse house) throws Exception {
        StringBuilder all = new StringBuilder();
        for (Method m : ASKING) {
            Random random = new Random(m.getName().hashCode());
            int count = m.getParameterCount() == 0 ? 1 : 25;
            for (int i = 0; i < count; i++) {
                all.append(m.getName()).append(call(house, m, random)).append('\n');
            }
        }
        return all.toString();
    }
}
