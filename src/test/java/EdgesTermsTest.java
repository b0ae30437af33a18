import java.lang.reflect.InvocationTargetException;
import java.lang.reflect.Method;
import java.util.Arrays;

/** The edges of what stands under "Terms": the face, calls behind a cut, the clock, what is told ahead of what, the many. */
public final class EdgesTermsTest {
    private static final int MIN = Integer.MIN_VALUE;
    private static final int MAX = Integer.MAX_VALUE;

    public static void main(String[] args) throws Exception {
        behindACut();
        rowsOrNot();
        mostRows();
        reopenedNumbers();
        reopenedOrders();
        theDay();
        theStops();
        fullOfAll();
        sameNumbers();
        limitsByPlaces();
        Due.end();
    }

    /** Every call but reopen() throws IllegalStateException behind a cut, whatever its arguments are. */
    private static void behindACut() throws Exception {
        DigHouse x = Houses.museum();
        x.cut(0);
        int count = 0;
        for (Method m : DigHouse.class.getMethods()) {
            if (m.getDeclaringClass() == DigHouse.class && !m.getName().equals("reopen")) {
                for (int v : new int[] {0, 1, -1, MIN, MAX}) {
                    Due.compare(m.getName() + " " + IllegalStateException.class, m.getName() + " " + thrown(x, m, v));
                }
                count++;
            }
        }
        Due.compare("226", String.valueOf(count));
        Due.is(0, () -> x.reopen());
        Due.is(0, () -> x.had(1));
        Due.is(0, () -> x.context());
    }

    private static Class<?> thrown(DigHouse x, Method m, int v) throws Exception {
        Object[] args = new Object[m.getParameterCount()];
        for (int i = 0; i < args.length; i++) {
            args[i] = m.getParameterTypes()[i] == boolean.class ? (Object) (v == 0) : (Object) v;
        }
        try {
            m.invoke(x, args);
            return null;
        } catch (InvocationTargetException e) {
            return e.getCause().getClass();
        }
    }

    /** What is told is a row, whatever it answers; what is asked is none, nor what is refused. */
    private static void rowsOrNot() throws Exception {
        for (Method m : DigHouse.class.getMethods()) {
            if (m.getDeclaringClass() == DigHouse.class && !m.getName().matches("save|cut|reopen")) {
                boolean tells = Arrays.asList(ReopenTest.TELLING.split(" ")).contains(m.getName());
                for (int v : new int[] {0, 1, -1, 2, 5, MAX}) {
                    DigHouse x = told();
                    int before = x.had(4);
                    boolean answered = thrown(x, m, v) == null;
                    Due.compare(m.getName() + " " + v + " " + (before + (answered && tells ? 1 : 0)), m.getName() + " " + v + " " + x.had(4));
                }
            }
        }
    }

    /** A house in which most calls are answered that get 0 or 1 for each argument. */
    private static DigHouse told() {
        DigHouse x = Houses.solved(3, 2);
        for (int o = 0; o < 2; o++) {
            x.find(o, o, o);
            x.object(o, 1 + o, 1 + o, 1 + o, 1);
            x.place(-1, 1000);
            x.room(o);
            x.ownerRow(o, o, 0, 0, 0);
            x.ownerClaim(o, o, 0);
            Houses.contract(x, "z=1");
            Houses.method(x, "");
            x.claimSource(0, 0);
            x.claimNew();
            x.rightPerson(o);
            Houses.rule(x, "s");
            x.ticketSlot(1);
            x.ticketSell(o, 1, 0);
        }
        x.find(0, 0, 0);
        x.layerRelate(0, 1, 0);
        x.layerGroup();
        x.layerGroup();
        x.layerVersion();
        x.layerVersion();
        x.draw(1);
        x.placeDoor(0, 1, 1, 1);
        x.placeDoor(0, 1, 1, 1);
        x.hour(0, 0);
        x.hour(0, 0);
        x.roomSensor(0, 0, 0);
        x.roomSensor(1, 1, 0);
        x.ownerSettle(0, 0);
        x.lend(0, 0, 0, 0);
        x.lend(0, 0, 1, 1);
        x.look(0, 0, 0, 0);
        x.ticketRead(0, 0, 0);
        x.ticketRead(1, 0, 0);
        x.ticketRead(2, 0, 0);
        x.ticketJoin();
        x.rightExport(0, 0);
        return x;
    }

    /** With 1500 rows all calls that tell throw IllegalStateException, ahead of all others; what is asked is answered as before. */
    private static void mostRows() throws Exception {
        DigHouse x = told();
        DigHouse before = told();
        while (x.had(4) < 1500) {
            x.claimClear();
        }
        for (Method m : DigHouse.class.getMethods()) {
            if (m.getDeclaringClass() == DigHouse.class && !m.getName().matches("save|cut|reopen|had")) {
                boolean tells = Arrays.asList(ReopenTest.TELLING.split(" ")).contains(m.getName());
                for (int v : new int[] {0, 1, -1, MAX}) {
                    String due = tells ? IllegalStateException.class.toString() : String.valueOf(thrown(before, m, v));
                    Due.compare(m.getName() + " " + v + " " + due, m.getName() + " " + v + " " + thrown(x, m, v));
                }
            }
        }
        Due.is(1500, () -> x.had(4));
        Due.is(0, () -> x.had(5));
        Due.is(1500, () -> x.save());
        Due.is(1500, () -> x.cut(0));
        Due.is(1500, () -> x.reopen());
        Due.state(() -> x.context());
    }

    /** Behind a cut each of a row's numbers is there again. */
    private static void reopenedNumbers() {
        DigHouse x = Houses.objects(2);
        x.rightPerson(0);
        x.rightUnit('m', ' ', 'g', ' ');
        x.rightUnit(0, 0, 0, 'k' | '0' << 8);
        Due.is(0, () -> x.rightRule());
        x.rightAgreement(0, 1, 0, 0);
        x.claimSource(0, 0);
        x.claimNew();
        x.claimRests(0, 0, true);
        x.claimRule(0, 1);
        x.claimOpinion(0, 0, 5, 0, 9);
        x.claimOpinion(1, 0, 6, 0, 8);
        x.ticketSlot(1);
        x.ticketOver(0, 1, 2, 1, 4);
        room(x);
        x.roomMachine(0, 0, 19000, 60000, 77);
        x.roomMachine(0, 0, 20001, 60000, 77);
        x.roomRisk(0, 2, 20000, 9);
        x.roomRule(0, 0, 19000, 1);
        x.save();
        x.cut(0);
        x.reopen();
        Due.is(1, () -> x.look(0, 1, 1, 0));
        Due.is(0, () -> x.look(0, 0, 1, 0));
        Due.is(5, () -> x.claimAgreed(0, 0));
        Due.is(2, () -> x.ticketMost(0));
        x.hour(20000, 10000);
        Due.is(77, () -> x.roomBook(0, 4, 0));
        Due.is(9, () -> x.roomPoints(0, 2));
        Due.is(0, () -> x.roomAlarm(0, 0, 0));
        x.pass(1);
        Due.is(0, () -> x.look(0, 1, 1, 0));
    }

    /** Numbers of a row are told again in their order. */
    private static void reopenedOrders() {
        DigHouse x = Houses.objects(2);
        x.claimNew();
        x.origin(1, 0);
        x.rightPerson(0);
        x.rightPerson(0);
        x.rightPerson(128);
        Houses.rule(x, "s");
        x.rightEmbargo(0, 9);
        x.rightEmbargo(1, 8);
        Due.is(2, () -> x.rightExport(2, 0));
        x.curveUnit('1' | ':' << 8 | '4' << 16 | '0' << 24, '0' | '+' << 8 | '1' << 16 | '0' << 24);
        x.save();
        x.cut(0);
        x.reopen();
        Due.is(-1, () -> x.origin(0, -1));
        Due.is(0, () -> x.origin(1, -1));
        Due.is(1, () -> x.rightExported(1));
        Due.is(9, () -> x.rightEmbargo(0, -1));
        Due.is(8, () -> x.rightEmbargo(1, -1));
        Due.is(1, () -> x.curveRead());
        x.curveDate(400, 10);
        Due.is(999, () -> x.curveWeight(0, 1));
    }

    private static int room(DigHouse x) {
        return x.room(x.place(-1, 1000));
    }

    /** The day is the hour by 24, rounded down; the last hour of a day is still of that day. */
    private static void theDay() {
        DigHouse x = Houses.objects(1);
        Houses.contract(x, "z<2");
        for (int h = 0; h < 23; h++) {
            x.hour(0, 0);
        }
        Due.is(23, () -> x.present());
        Due.is(0, () -> x.lend(0, 0, 0, 0));
        x.hour(0, 0);
        Due.argument(() -> x.lend(0, 0, 0, 5));
        Due.is(1, () -> x.lend(0, 0, 1, 1));
        x.rightPerson(0);
        Houses.rule(x, "s");
        x.look(0, 0, 0, 0);
        Due.is(1, () -> x.rightLook(0, 4));
    }

    /** -2 ahead of NONE: the stop by a claim ahead of a clash, more than ten steps ahead of there being no order. */
    private static void theStops() {
        DigHouse x = Houses.contracts(1, 1, "z<2");
        Due.is(0, () -> x.lend(0, 0, 0, 9));
        Due.is(-1, () -> x.lend(0, 0, 9, 9));
        x.ownerClaim(0, 0, 0);
        Due.is(-2, () -> x.lend(0, 0, 9, 9));
        Due.is(-2, () -> x.lend(0, 0, 10, 10));
        DigHouse y = Houses.methods(1, 12, "x0,x1,x2,x3,x4,x5,x6,x7,x8,x9");
        Due.is(-1, () -> y.methodPlan(0, 1023));
        Due.is(-2, () -> y.methodPlan(0, 2047));
        Due.is(1, () -> y.methodPlan(0, 1));
    }

    /** All that is limited at once: 16 contexts, 20 finds, 10 objects, 24 places, 4 rooms, and what stands for each of them. */
    private static void fullOfAll() {
        DigHouse x = Houses.contexts(16);
        for (int f = 0; f < 20; f++) {
            x.find(15, 3, 7);
        }
        for (int o = 0; o < 10; o++) {
            int object = o;
            Due.is(object, () -> x.object(10 + object, 10000, 10000, 10000, 1000000));
        }
        for (int p = 0; p < 24; p++) {
            x.place(p - 1, 1000000000);
        }
        for (int r = 0; r < 4; r++) {
            x.room(23 - r);
        }
        int[] due = {20, 10, 4, 0, 74, 0};
        for (int what = 0; what < 6; what++) {
            int w = what;
            Due.is(due[w], () -> x.had(w));
        }
        for (int o = 0; o < 10; o++) {
            int object = o;
            Due.is(15, () -> x.from(object));
            Due.is(0, () -> x.carry(object, 23, 0, 0));
            Due.is(0, () -> x.inRoom(object));
        }
        Due.is(10000000, () -> x.placeUsed(0, 0));
        Due.is(24 + 10 + 10, () -> x.placeCount(0) + x.placeCount(1) + x.placeCount(5));
    }

    /** An object has the same number in PLACES, OWNERS, TERMS, METHODS and RIGHTS. */
    private static void sameNumbers() {
        DigHouse x = Houses.objects(10);
        Houses.contract(x, "z<2");
        x.rightPerson(0);
        Due.is(0, () -> x.ownerRow(9, 0, 0, 0, 0));
        Due.is(0, () -> x.lend(0, 9, 0, 0));
        Due.is(0, () -> x.methodPart(9, 0));
        Due.is(-1, () -> x.rightEmbargo(9, 0));
        Due.is(0, () -> x.placeKeys(9, 0));
        Due.element(() -> x.ownerRow(10, 0, 0, 0, 0));
        Due.element(() -> x.lend(0, 10, 0, 0));
        Due.index(() -> x.methodPart(10, 0));
        Due.element(() -> x.rightEmbargo(10, 0));
        Due.element(() -> x.placeKeys(10, 0));
        // Of TERMS all things are there.
        Due.is(0, () -> x.termRequest(15, 0, 0));
        x.find(0, 0, 0);
        Due.is(10, () -> x.had(1));
    }

    /** What the house limits by itself: twelve years, the unit 999, sixteen contexts. */
    private static void limitsByPlaces() {
        DigHouse x = new DigHouse();
        Due.is(12, () -> x.curveCount(0));
        Due.index(() -> x.curveRow(12, 0, 1));
        x.curveRow(11, 0, 1);
        x.curveDate(0, 1);
        Due.is(999, () -> x.curveWeight(0, 11));
        Due.index(() -> x.curveWeight(0, 12));
        Due.index(() -> x.curveSlid(12));
        x.draw(0);
        Due.is(15, () -> x.sheetGroup(15));
        Due.is(-1, () -> x.sheetAt(15, 0));
        Due.index(() -> x.sheetGroup(16));
    }
}
