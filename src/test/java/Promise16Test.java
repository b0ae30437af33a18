/** roomCheck, roomCorrected, roomSilent, roomPlan, roomCount; methodUnit, methodRead, methodUses, methodPart, methodRight, methodTrial. */
public final class Promise16Test {
    public static void main(String[] args) {
        checks();
        silent();
        plans();
        pads();
        texts();
        mostMethods();
        parts();
        rightsAndTrials();
        Due.end();
    }

    private static DigHouse room(int hours) {
        DigHouse x = new DigHouse();
        x.place(-1, 100);
        x.room(0);
        for (int h = 0; h < hours; h++) {
            x.hour(0, 0);
        }
        return x;
    }

    private static void checks() {
        DigHouse x = room(9);
        Due.element(() -> x.roomCheck(1, 99, 0));
        Due.index(() -> x.roomCheck(0, 9, 100001));
        Due.index(() -> x.roomCheck(0, -1, 0));
        Due.state(() -> x.roomCheck(0, 3, 100001));
        for (int h = 0; h < 9; h++) {
            x.roomSensor(0, h, 100);
        }
        Due.argument(() -> x.roomCheck(0, 3, 100001));
        Due.argument(() -> x.roomCheck(0, 3, -100001));
        x.roomCheck(0, 2, 110);
        corrected(x, 110, 110, 110, 110, 110, 110, 110, 110, 110);
        x.roomCheck(0, 5, 106);
        corrected(x, 110, 110, 110, 108, 107, 106, 106, 106, 106);
        x.roomCheck(0, 5, 117);
        corrected(x, 110, 110, 110, 112, 114, 117, 117, 117, 117);
        Due.is(2, () -> x.roomCount(0, 4));
        x.roomSensor(0, 2, 104);
        Due.is(110, () -> x.roomCorrected(0, 2));
        Due.is(106, () -> x.roomCorrected(0, 0));
        Due.index(() -> x.roomCorrected(0, 9));
        Due.index(() -> x.roomCorrected(0, -1));
        Due.element(() -> x.roomCorrected(1, 0));
    }

    private static void corrected(DigHouse x, int... due) {
        for (int h = 0; h < due.length; h++) {
            int hour = h;
            Due.is(due[h], () -> x.roomCorrected(0, hour));
        }
    }

    private static void silent() {
        DigHouse x = room(8);
        Due.is(0, () -> x.roomSilent(0, 0));
        for (int h : new int[] {2, 5}) {
            x.roomSensor(0, h, 0);
        }
        Due.is(0, () -> x.roomSilent(0, 0));
        Due.is(3, () -> x.roomSilent(0, 1));
        Due.is(6, () -> x.roomSilent(0, 4));
        x.roomSensor(0, 7, 0);
        Due.is(-1, () -> x.roomSilent(0, 7));
        Due.is(6, () -> x.roomSilent(0, 5));
        Due.index(() -> x.roomSilent(0, 8));
        Due.index(() -> x.roomSilent(0, -1));
        Due.element(() -> x.roomSilent(1, 0));
    }

    private static void plans() {
        DigHouse x = room(0);
        Due.element(() -> x.roomPlan(1, 0, 0, 0));
        Due.argument(() -> x.roomPlan(0, 0, 0, 0));
        Due.argument(() -> x.roomPlan(0, 25, 0, 0));
        Due.argument(() -> x.roomPlan(0, 1, 60001, 0));
        Due.argument(() -> x.roomPlan(0, 1, 0, -1));
        x.roomSize(0, 100, 0);
        Due.is(18000, () -> x.roomPlan(0, 24, 0, 0));
        x.roomSize(0, 100, 60);
        Due.is(18000, () -> x.roomPlan(0, 1, 0, 0));
        x.roomSize(0, 100, 200);
        Due.is(18500, () -> x.roomPlan(0, 24, 10000, 0));
        x.roomMachine(0, 0, -60000, -60000, 100000);
        Due.is(18500, () -> x.roomPlan(0, 3, 10000, 0));
        x.roomMachine(0, 0, 0, 0, 0);
        x.roomSize(0, 100, 0);
        Due.is(18000, () -> x.roomPlan(0, 24, 10000, 0));
        Due.is(20000, () -> x.roomDegrees(0));
        Due.no(() -> x.roomOn(0, 0));
        Due.is(0, () -> x.roomCount(0, 0));
        x.roomWall(0, 0, 1);
        x.roomRow(0, 0, 0);
        x.roomRow(0, 1, 0);
        x.roomRule(0, 0, 0, 1);
        x.hour(0, 0);
        x.roomSensor(0, 0, 0);
        x.roomCheck(0, 0, 0);
        x.roomCheck(0, 0, 1);
        int[] due = {1, 1, 2, 1, 1};
        for (int what = 0; what < 5; what++) {
            int w = what;
            Due.is(due[what], () -> x.roomCount(0, w));
        }
        Due.index(() -> x.roomCount(0, 5));
        Due.index(() -> x.roomCount(0, -1));
        Due.element(() -> x.roomCount(1, 9));
    }

    private static DigHouse house(int objects) {
        DigHouse x = new DigHouse();
        x.context();
        for (int o = 0; o < objects; o++) {
            x.find(0, 0, -1);
            x.object(o, 1, 1, 1, 1);
        }
        return x;
    }

    private static int read(DigHouse x, String text) {
        for (char c : text.toCharArray()) {
            x.methodUnit(c);
        }
        return x.methodRead();
    }

    private static void pads() {
        DigHouse x = house(0);
        Due.argument(() -> x.methodUnit(32));
        Due.argument(() -> x.methodUnit(127));
        for (int i = 1; i <= 50; i++) {
            int count = i;
            Due.is(count, () -> x.methodUnit(126));
        }
        Due.state(() -> x.methodUnit(126));
        Due.state(() -> x.methodUnit(0));
        Due.is(-1, () -> x.methodRead());
        Due.is(0, () -> x.methodCount(0));
    }

    private static void texts() {
        DigHouse x = house(0);
        String[] wrong = {"u", "u12", "u1", "u1*", "u1*0,", "u1*0000", "u1*10000", "b10", "x12", "a1", "a1:", "a1:00001", "t,", "tt", "i0", ",",
            "t,t,t,t,t,t,t,t,t,t,t", "c", "u00011*1", "u0*1b1"};
        int[] at = {1, 2, 2, 3, 4, 6, 7, 2, 2, 2, 3, 7, 2, 1, 1, 0, 19, 0, 5, 4};
        for (int i = 0; i < wrong.length; i++) {
            int k = i;
            Due.is(-1 - at[i], () -> read(x, wrong[k]));
            Due.is(0, () -> x.methodCount(0));
        }
        Due.index(() -> x.methodUses(0, 0));
        Due.is(0, () -> read(x, "u11*9999,u0011*0002,b9,x11,a11:9999,t,i,i,t,b0"));
        Due.is(10001, () -> x.methodUses(0, 11));
        Due.is(0, () -> x.methodUses(0, 0));
        Due.index(() -> x.methodUses(0, 12));
        Due.index(() -> x.methodUses(0, -1));
        Due.index(() -> x.methodUses(1, 0));
    }

    private static void mostMethods() {
        DigHouse x = house(0);
        for (int m = 0; m < 12; m++) {
            int method = m;
            Due.is(method, () -> read(x, ""));
        }
        x.methodUnit(116);
        Due.state(() -> x.methodRead());
        Due.is(1, () -> x.methodCount(0));
        Due.is(12, () -> x.methodCount(1));
    }

    private static void parts() {
        DigHouse x = house(1);
        Due.index(() -> x.methodPart(1, 0));
        Due.index(() -> x.methodPart(0, 10));
        Due.index(() -> x.methodPart(0, -1));
        for (int p = 0; p < 8; p++) {
            int part = p;
            Due.is(part, () -> x.methodPart(0, 9));
        }
        Due.state(() -> x.methodPart(0, 0));
        Due.index(() -> x.methodPart(0, 10));
    }

    private static void rightsAndTrials() {
        DigHouse x = house(0);
        Due.index(() -> x.methodRight(0, 0, true));
        Due.index(() -> x.methodTrial(0, 0, true));
        read(x, "");
        Due.index(() -> x.methodRight(8, 0, true));
        Due.index(() -> x.methodRight(-1, 0, true));
        Due.no(() -> x.methodRight(7, 0, false));
        Due.yes(() -> x.methodRight(7, 0, true));
        Due.no(() -> x.methodRight(7, 0, true));
        Due.yes(() -> x.methodRight(7, 0, false));
        Due.index(() -> x.methodTrial(0, 10, true));
        Due.index(() -> x.methodTrial(1, 0, true));
        Due.no(() -> x.methodTrial(0, 9, true));
        Due.yes(() -> x.methodTrial(0, 9, true));
        Due.yes(() -> x.methodTrial(0, 9, false));
        Due.no(() -> x.methodTrial(0, 9, false));
    }
}
