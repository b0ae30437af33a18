import java.util.function.Supplier;

/** The edges of promise 16: roomCheck up to roomCount, methodUnit up to methodTrial. */
public final class Edges16Test {
    private static final int MIN = Integer.MIN_VALUE;
    private static final int MAX = Integer.MAX_VALUE;

    public static void main(String[] args) {
        bounds();
        checks();
        drifts();
        silent();
        plans();
        closePlans();
        planHours();
        roomCounts();
        pads();
        texts();
        manyMethods();
        uses();
        parts();
        rightsAndTrials();
        Due.end();
    }

    private static DigHouse sensed(int hours) {
        DigHouse x = Houses.hours(hours);
        for (int r = 0; r < 4; r++) {
            for (int h = 0; h < hours; h++) {
                x.roomSensor(r, h, 10 * h);
            }
        }
        return x;
    }

    private static DigHouse pad(int signs) {
        DigHouse x = Houses.objects(1);
        Houses.signs(Houses.repeated("!", signs), x::methodUnit);
        return x;
    }

    private static DigHouse parts(int count) {
        DigHouse x = Houses.objects(10);
        for (int k = 0; k < count; k++) {
            int part = k;
            for (int o = 0; o < 10; o++) {
                int object = o;
                Due.is(part, () -> x.methodPart(object, 9));
            }
        }
        return x;
    }

    private static void bounds() {
        Supplier<DigHouse> sensed = () -> sensed(3);
        Supplier<DigHouse> methods = () -> Houses.methods(10, 12, "u11*9999");
        Bounds.of(sensed, "roomCheck", 2, 1, 0).element(0, 0, 3).index(1, 0, 2).argument(2, -100000, 100000).hold();
        Bounds.of(sensed, "roomCorrected", 2, 1).element(0, 0, 3).index(1, 0, 2).hold();
        Bounds.of(sensed, "roomSilent", 2, 1).element(0, 0, 3).index(1, 0, 2).hold();
        Bounds.of(sensed, "roomPlan", 2, 5, 50, 60).element(0, 0, 3).argument(1, 1, 24).argument(2, -60000, 60000).argument(3, 0, 60000).hold();
        Bounds.of(sensed, "roomCount", 2, 1).element(0, 0, 3).index(1, 0, 4).hold();
        Bounds.of(() -> pad(49), "methodUnit", 50).argument(0, 33, 126).hold().full(() -> pad(50));
        Bounds.of(() -> pad(0), "methodUnit", 50).argument(0, 33, 126).hold();
        Bounds.of(() -> Houses.methods(1, 11, ""), "methodRead").hold().full(methods);
        Bounds.of(methods, "methodUses", 3, 4).index(0, 0, 11).index(1, 0, 11).hold();
        Bounds.of(() -> parts(7), "methodPart", 3, 4).index(0, 0, 9).index(1, 0, 9).hold().full(() -> parts(8));
        Bounds.of(methods, "methodRight", 3, 4, true).index(0, 0, 7).index(1, 0, 11).hold();
        Bounds.of(methods, "methodTrial", 3, 4, true).index(0, 0, 11).index(1, 0, 9).hold();
        DigHouse none = new DigHouse();
        Due.element(() -> none.roomCheck(0, -1, MAX));
        Due.element(() -> none.roomCorrected(0, -1));
        Due.element(() -> none.roomSilent(0, -1));
        Due.element(() -> none.roomPlan(0, 0, MAX, -1));
        Due.element(() -> none.roomCount(0, -1));
        Due.index(() -> none.methodUses(0, 0));
        Due.index(() -> none.methodPart(0, 0));
        Due.index(() -> none.methodRight(0, 0, true));
        Due.index(() -> none.methodTrial(0, 0, true));
    }

    /** A check needs an hour that was, then a value, then one within its bounds; one for each hour. */
    private static void checks() {
        DigHouse x = Houses.hours(3);
        Due.index(() -> x.roomCheck(0, 3, 100001));
        Due.state(() -> x.roomCheck(0, 2, 100001));
        Due.state(() -> x.roomCheck(0, 2, 0));
        x.roomSensor(0, 2, 50);
        Due.state(() -> x.roomCheck(0, 1, 0));
        Due.argument(() -> x.roomCheck(0, 2, 100001));
        Due.argument(() -> x.roomCheck(0, 2, -100001));
        Due.is(0, () -> x.roomCount(0, 4));
        Due.is(50, () -> x.roomCorrected(0, 2));
        x.roomCheck(0, 2, 100000);
        Due.is(1, () -> x.roomCount(0, 4));
        Due.is(100000, () -> x.roomCorrected(0, 2));
        Due.argument(() -> x.roomCheck(0, 2, 100001));
        Due.argument(() -> x.roomCheck(0, 2, MIN));
        Due.is(100000, () -> x.roomCorrected(0, 2));
        x.roomCheck(0, 2, -100000);
        Due.is(1, () -> x.roomCount(0, 4));
        Due.is(-100000, () -> x.roomCorrected(0, 2));
        x.roomSensor(0, 1, 60);
        Due.is(60 - 100050, () -> x.roomCorrected(0, 1));
        Due.is(-200000, () -> x.roomCorrected(0, 0));
    }

    /** Between two checks on the line between their drifts, rounded down; ahead of them and behind them as the nearest. */
    private static void drifts() {
        DigHouse x = sensed(60);
        x.roomCheck(0, 10, 100 + 7);
        x.roomCheck(0, 20, 200 - 6);
        x.roomCheck(0, 59, 590 - 6);
        for (int h = 0; h < 60; h++) {
            int hour = h;
            int drift = h <= 10 ? 7 : h <= 20 ? 7 + Math.floorDiv(-13 * (h - 10), 10) : -6;
            Due.is(10 * h + drift, () -> x.roomCorrected(0, hour));
        }
        // The first and the last hour, and the greatest drifts between them.
        DigHouse y = sensed(60);
        y.roomSensor(1, 0, -100000);
        y.roomSensor(1, 59, 100000);
        y.roomCheck(1, 0, 100000);
        y.roomCheck(1, 59, -100000);
        for (int h = 0; h < 60; h++) {
            int hour = h;
            int value = h == 0 ? -100000 : h == 59 ? 100000 : 10 * h;
            Due.is(value + 200000 + Math.floorDiv(-400000 * h, 59), () -> y.roomCorrected(1, hour));
        }
        DigHouse z = sensed(3);
        z.roomCheck(0, 0, 1);
        z.roomCheck(0, 2, 20);
        // 1 + (0 - 1) * 1 by 2, rounded down.
        Due.is(10, () -> z.roomCorrected(0, 1));
        z.roomCheck(0, 0, -1);
        Due.is(9, () -> z.roomCorrected(0, 1));
    }

    /** The longest row without a value from an hour on, of equal ones the first. */
    private static void silent() {
        DigHouse x = Houses.hours(60);
        Due.is(0, () -> x.roomSilent(0, 0));
        Due.is(59, () -> x.roomSilent(0, 59));
        for (int h : new int[] {0, 3, 4, 7, 59}) {
            x.roomSensor(0, h, 0);
        }
        Due.is(8, () -> x.roomSilent(0, 0));
        Due.is(20, () -> x.roomSilent(0, 20));
        Due.is(-1, () -> x.roomSilent(0, 59));
        for (int h = 9; h < 59; h++) {
            x.roomSensor(0, h, 0);
        }
        Due.is(1, () -> x.roomSilent(0, 0));
        Due.is(1, () -> x.roomSilent(0, 1));
        // From hour 2 on the first row has one hour left.
        Due.is(5, () -> x.roomSilent(0, 2));
        Due.is(5, () -> x.roomSilent(0, 5));
        Due.is(6, () -> x.roomSilent(0, 6));
        Due.is(8, () -> x.roomSilent(0, 7));
        Due.is(8, () -> x.roomSilent(0, 8));
        Due.is(-1, () -> x.roomSilent(0, 9));
        Due.is(0, () -> x.roomSilent(1, 0));
        DigHouse y = Houses.hours(4);
        y.roomSensor(0, 1, 0);
        y.roomSensor(0, 3, 0);
        Due.is(0, () -> y.roomSilent(0, 0));
        y.roomSensor(0, 0, 0);
        Due.is(2, () -> y.roomSilent(0, 0));
        y.roomSensor(0, 2, 0);
        Due.is(-1, () -> y.roomSilent(0, 0));
    }

    /** Of levels from 18000 to 22000 by 500, that with the least sum; of equal ones the lowest. */
    private static void plans() {
        // Without air nothing changes: no warmer goes on below its level, and all sums are 0.
        DigHouse still = Houses.rooms();
        still.roomSize(0, 100, 0);
        Due.is(18000, () -> still.roomPlan(0, 24, 0, 0));
        Due.is(0, () -> still.roomCount(0, 0));
        Due.no(() -> still.roomOn(0, 0));
        Due.is(2000000, () -> still.roomBook(0, -1, 0));
        // At 18000 of a volume of 1 and no air: not below the first level, nor below 18000 degrees.
        for (int degrees : new int[] {17999, 18000, 18001, 21999, 22000, 22001, 25000}) {
            DigHouse x = Houses.rooms();
            x.roomSize(0, 1, 1000);
            x.hour(degrees, 0);
            x.roomSize(0, 1, 0);
            int[] rates = {0, 1, 499, 500, 5000, 100000};
            for (int rate : rates) {
                x.roomMachine(0, 0, -60000, -60000, rate);
                Due.is(best(degrees, rate, 5), () -> x.roomPlan(0, 5, 0, 0));
                Due.is(best(degrees, rate, 1), () -> x.roomPlan(0, 1, 0, 0));
                Due.is(best(degrees, rate, 24), () -> x.roomPlan(0, 24, 0, 0));
            }
            DigHouse y = Houses.rooms();
            y.roomSize(0, 1, 1000);
            y.hour(degrees, 0);
            y.roomSize(0, 1, 0);
            // A rate that is not told is 5000.
            Due.is(best(degrees, 5000, 3), () -> y.roomPlan(0, 3, 0, 0));
        }
    }

    /** What the words say of a room of volume 1 without air. */
    private static int best(int degrees, int rate, int hours) {
        return best(degrees, 1, 0, 0, rate, hours);
    }

    /** What the words say of a room with a volume and a share of air, and a warmer alone. */
    private static int best(int degrees, int volume, int share, int outside, int rate, int hours) {
        int best = -1;
        long least = Long.MAX_VALUE;
        for (int level = 18000; level <= 22000; level += 500) {
            long sum = 0;
            long heat = (long) degrees * volume;
            boolean on = false;
            for (int h = 0; h < hours; h++) {
                heat += Math.floorDiv(share * (outside - Math.floorDiv(heat, volume)) * volume, 1000L);
                long now = Math.floorDiv(heat, volume);
                on = now < level || on && now <= level + 500;
                heat += on ? rate : 0;
                long end = Math.floorDiv(heat, volume);
                sum += (on ? rate : 0) + 100 * Math.max(0, Math.max(18000 - end, end - 22000));
            }
            if (sum < least) {
                least = sum;
                best = level;
            }
        }
        return best;
    }

    /** Rooms in which the sums of two levels lie close to one another, so that each of their parts matters. */
    private static void closePlans() {
        int[][] rows = {{26800, 1, 500, 10000, 3682, 2, 18000}, {22869, 1, 100, 5000, 1000, 8, 21500}, {19926, 1000, 50, 0, 100, 20, 18000},
            {20462, 1000, 50, 10000, 7000, 23, 19000}, {21135, 1000, 100, 0, 499, 22, 19500}, {20000, 100, 300, 17000, 5000, 5, 18500},
            {23212, 100, 100, 17000, 499, 24, 22000}, {20000, 1, 50, 15000, 100, 16, 19000}, {18325, 100, 300, 18000, 10, 24, 18000},
            {19403, 100, 100, 17000, 5000, 16, 19500}, {20668, 100, 300, 17000, 5000, 23, 20000}, {20000, 1000, 10, -20000, 5000, 16, 18500}};
        for (int[] row : rows) {
            DigHouse x = Houses.rooms();
            x.roomSize(0, row[1], 1000);
            x.hour(row[0], 0);
            x.roomSize(0, row[1], row[2]);
            Due.is(row[0], () -> x.roomDegrees(0));
            if (row[4] != 5000) {
                x.roomMachine(0, 0, 0, 0, row[4]);
            }
            Due.is(row[6], () -> x.roomPlan(0, row[5], row[3], 60000));
            Due.is(best(row[0], row[1], row[2], row[3], row[4], row[5]), () -> x.roomPlan(0, row[5], row[3], 0));
        }
    }

    /** Hours 1 to 24, with the walls, goods and other machines as they are; nothing changes. */
    private static void planHours() {
        DigHouse x = Houses.rooms();
        x.roomWall(0, 50, 100);
        x.roomRow(0, 5000, 100);
        x.roomGoods(0, 100);
        x.roomMachine(0, 1, 19000, 20000, 3000);
        x.roomMachine(0, 0, 19500, 20500, 9000);
        x.hour(10000, 5000);
        long heat = x.roomBook(0, -1, 0);
        String before = all(x);
        int first = x.roomPlan(0, 1, -60000, 0);
        for (int hours = 1; hours <= 24; hours++) {
            int h = hours;
            int level = x.roomPlan(0, h, -60000, 60000);
            Due.compare("true", String.valueOf(level >= 18000 && level <= 22000 && level % 500 == 0));
            Due.is(level, () -> x.roomPlan(0, h, -60000, 60000));
        }
        Due.is(first, () -> x.roomPlan(0, 1, -60000, 0));
        Due.compare(before, all(x));
        Due.is(heat, () -> x.roomBook(0, -1, 0));
        Due.argument(() -> x.roomPlan(0, 25, 0, 0));
        Due.argument(() -> x.roomPlan(0, 0, 0, 0));
    }

    private static String all(DigHouse x) {
        StringBuilder all = new StringBuilder();
        for (int kind = -1; kind < 5; kind++) {
            all.append(x.roomBook(0, kind, 0)).append(' ').append(x.roomBook(0, kind, 1)).append(' ');
        }
        for (int kind = 0; kind < 4; kind++) {
            all.append(x.roomOn(0, kind)).append(x.roomPoints(0, kind));
        }
        return all.append(x.roomLayer(0, 0)).append(' ').append(x.roomHeld(0)).toString();
    }

    private static void roomCounts() {
        DigHouse x = sensed(3);
        int[] due = {3, 0, 0, 0, 0};
        for (int what = 0; what < 5; what++) {
            int w = what;
            Due.is(due[w], () -> x.roomCount(3, w));
        }
        x.roomWall(3, 1, 1);
        x.roomRow(3, 1, 1);
        x.roomRow(3, 2, 1);
        x.roomRule(3, 1, 1, 1);
        x.roomRule(3, 1, 1, 1);
        x.roomRule(3, 1, 1, 1);
        x.roomCheck(3, 0, 0);
        x.roomCheck(3, 2, 0);
        x.roomCheck(3, 0, 1);
        int[] then = {3, 1, 2, 3, 2};
        for (int what = 0; what < 5; what++) {
            int w = what;
            Due.is(then[w], () -> x.roomCount(3, w));
            Due.is(w == 0 ? 3 : 0, () -> x.roomCount(2, w));
        }
    }

    /** Fifty signs; the sign is asked behind that. */
    private static void pads() {
        DigHouse x = pad(50);
        Due.state(() -> x.methodUnit(33));
        Due.state(() -> x.methodUnit(32));
        Due.is(-1, () -> x.methodRead());
        Due.is(0, () -> x.methodCount(0));
        Due.is(0, () -> x.methodCount(1));
        Due.argument(() -> x.methodUnit(127));
        Due.argument(() -> x.methodUnit(MIN));
        Due.argument(() -> x.methodUnit(MAX));
        Due.is(1, () -> x.methodUnit(126));
    }

    private static void reads(String text, int due) {
        DigHouse x = Houses.methods(1, 2, "u3*7,u3*8");
        Houses.signs(text, x::methodUnit);
        Due.compare(text + ": " + due, text + ": " + x.methodRead());
        Due.is(0, () -> x.methodCount(0));
        Due.is(due < 0 ? 2 : 3, () -> x.methodCount(1));
        // A text that was wrong leaves nothing behind for the next one.
        if (due < 0) {
            Due.is(2, () -> x.methodRead());
            for (int good = 0; good < 12; good++) {
                int g = good;
                Due.is(0, () -> x.methodUses(2, g));
            }
            Due.is(600, () -> x.methodReason(0, 2, 0, 0));
        }
    }

    private static void texts() {
        String[] good = {"", "t", "i", "t,i,t,i,t,i,t,i,t,i", "u0*1", "u11*9999", "u0011*0001", "b0", "b9", "b0009", "x0", "x11", "x0011",
            "a0:0", "a11:9999", "a0000:0000", "b1,b1,x2,x2,a3:4,a3:5", "u1*1,u1*1,u1*1,u1*1,u1*1,u1*1,u1*1,u1*1,u1*1,t"};
        for (String text : good) {
            reads(text, 2);
        }
        String[] wrong = {"^,", "^c", "^1", "^T", "t^t", "t^1", "t,^", "t,^,", "t^;", "u^", "u^*", "u^x", "u1^", "u1^,", "u1^2",
            "u2^0", "u0001^1", "u0000^0", "u1*^", "u1*^,", "u1*^x", "u1*0^", "u1*0^,", "u1*000^0", "u1*9999^9",
            "u1*0001^0", "u1*1^*", "b^", "b^,", "b1^0", "b0^:", "b0009^0", "b001^0", "x^", "x1^2", "x9^9", "x001^2", "x0011^1", "x1^:",
            "a^", "a^:", "a1^", "a1^,", "a1^2:0", "a1:^", "a1:^,", "a1:9999^9", "a1:0000^0", "a1:1^:", "i^i", "i,u1*1^;",
            "t,t,t,t,t,t,t,t,t,t^,", "t,t,t,t,t,t,t,t,t,t^,t", "t,t,t,t,t,t,t,t,t,^", "t,t,t,t,t,t,t,t,t,t^t"};
        for (String text : wrong) {
            reads(text.replace("^", ""), -1 - text.indexOf('^'));
        }
        // Fifty signs that are a text, and fifty of which only the end is wrong.
        String five = Houses.repeated("u11*9999,", 5);
        Due.is(45, () -> five.length());
        reads(five + "b0001", 2);
        reads(five + "b1,t,", -51);
        reads(five + "u11*0", -51);
    }

    private static void manyMethods() {
        DigHouse x = Houses.objects(1);
        for (int m = 0; m < 12; m++) {
            int method = m;
            Due.index(() -> x.methodUses(method, 0));
            Due.is(method, () -> Houses.method(x, "x11,a11:0,u" + method + "*" + (method + 1)));
        }
        x.methodUnit('t');
        Due.state(() -> x.methodRead());
        Due.is(1, () -> x.methodCount(0));
        Due.is(12, () -> x.methodCount(1));
        Due.is(12, () -> x.methodUses(11, 11));
        Due.is(0, () -> x.methodUses(11, 10));
    }

    /** Of one good in all: what clauses use of it together. */
    private static void uses() {
        DigHouse x = Houses.objects(1);
        Houses.method(x, "u11*9999,u11*9999,u11*9999,u11*9999,u0*1,u0*1");
        Due.is(39996, () -> x.methodUses(0, 11));
        Due.is(2, () -> x.methodUses(0, 0));
        Due.is(0, () -> x.methodUses(0, 5));
        Due.index(() -> x.methodUses(0, 12));
        Due.index(() -> x.methodUses(1, 12));
    }

    private static void parts() {
        DigHouse x = parts(8);
        Due.state(() -> x.methodPart(0, 0));
        Due.index(() -> x.methodPart(0, 10));
        Due.index(() -> x.methodPart(10, 0));
        DigHouse y = Houses.objects(1);
        Due.is(0, () -> y.methodPart(0, 0));
        Due.is(1, () -> y.methodPart(0, 0));
        Due.index(() -> y.methodPart(1, 0));
    }

    private static void rightsAndTrials() {
        DigHouse x = Houses.methods(1, 12, "t");
        Due.yes(() -> x.methodRight(7, 11, true));
        Due.no(() -> x.methodRight(7, 11, true));
        Due.yes(() -> x.methodRight(7, 11, false));
        Due.no(() -> x.methodRight(0, 11, false));
        Due.no(() -> x.methodTrial(11, 9, true));
        Due.yes(() -> x.methodTrial(11, 9, true));
        Due.yes(() -> x.methodTrial(11, 9, false));
        Due.no(() -> x.methodTrial(11, 9, false));
        Due.no(() -> x.methodTrial(0, 0, true));
        Due.no(() -> x.methodTrial(0, 9, true));
        Due.no(() -> x.methodTrial(11, 0, true));
        x.methodPart(0, 0);
        x.methodPart(0, 9);
        Due.is(600, () -> x.methodReason(0, 0, 0, 0));
        Due.is(409, () -> x.methodReason(0, 11, 0, 0));
        Due.is(400, () -> x.methodReason(0, 5, 0, 0));
    }
}
