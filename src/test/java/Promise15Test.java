/** roomDamp, roomLayer, roomHeld, roomOn, roomBook, roomDew, roomRisk, roomPoints, roomRule, roomAlarm, roomSensor. */
public final class Promise15Test {
    public static void main(String[] args) {
        asked();
        books();
        dew();
        risks();
        alarms();
        sensors();
        Due.end();
    }

    private static DigHouse room() {
        DigHouse x = new DigHouse();
        x.place(-1, 100);
        x.room(0);
        return x;
    }

    private static void asked() {
        DigHouse x = room();
        Due.is(10000, () -> x.roomDamp(0));
        Due.element(() -> x.roomDamp(1));
        Due.element(() -> x.roomDamp(-1));
        Due.index(() -> x.roomLayer(0, 0));
        Due.element(() -> x.roomLayer(1, 0));
        x.roomWall(0, 5, 3);
        Due.is(20000, () -> x.roomLayer(0, 0));
        Due.index(() -> x.roomLayer(0, 1));
        Due.index(() -> x.roomLayer(0, -1));
        Due.is(0, () -> x.roomHeld(0));
        Due.element(() -> x.roomHeld(1));
        Due.no(() -> x.roomOn(0, 3));
        Due.index(() -> x.roomOn(0, 4));
        Due.index(() -> x.roomOn(0, -1));
        Due.element(() -> x.roomOn(1, 9));
        x.roomSize(0, 3, 0);
        Due.is(333333, () -> x.roomDamp(0));
    }

    private static void books() {
        DigHouse x = room();
        Due.element(() -> x.roomBook(1, 9, 9));
        Due.index(() -> x.roomBook(0, 5, 0));
        Due.index(() -> x.roomBook(0, -2, 0));
        Due.index(() -> x.roomBook(0, 0, 2));
        Due.index(() -> x.roomBook(0, 0, -1));
        Due.is(2000000, () -> x.roomBook(0, -1, 0));
        Due.is(1000000, () -> x.roomBook(0, -1, 1));
        x.roomMachine(0, 0, 60000, 60000, 70);
        x.roomWall(0, 10, 10);
        x.roomRow(0, 60000, 4);
        x.roomGoods(0, 10);
        x.hour(15000, 4000);
        long[][] due = {{-50000, -60000}, {50, 0}, {0, -10}, {0, 0}, {70, 0}};
        long heat = 2000000;
        long water = 1000000;
        for (int kind = 0; kind < 5; kind++) {
            int k = kind;
            Due.is(due[kind][0], () -> x.roomBook(0, k, 0));
            Due.is(due[kind][1], () -> x.roomBook(0, k, 1));
            heat += due[kind][0];
            water += due[kind][1];
        }
        long h = heat;
        long w = water;
        Due.is(h, () -> x.roomBook(0, -1, 0));
        Due.is(w, () -> x.roomBook(0, -1, 1));
    }

    private static void dew() {
        DigHouse x = room();
        Due.index(() -> x.roomDew(0, 0));
        Due.element(() -> x.roomDew(1, 0));
        x.roomWall(0, 100, 1);
        Due.no(() -> x.roomDew(0, 0));
        x.roomSize(0, 50, 0);
        Due.no(() -> x.roomDew(0, 0));
        x.roomSize(0, 49, 0);
        Due.yes(() -> x.roomDew(0, 0));
        x.roomSize(0, 1000, 1000);
        x.hour(-60000, 0);
        Due.is(-60000, () -> x.roomLayer(0, 0));
        Due.no(() -> x.roomDew(0, 0));
        x.hour(-60000, 1);
        Due.yes(() -> x.roomDew(0, 0));
    }

    private static void risks() {
        DigHouse x = room();
        Due.element(() -> x.roomRisk(1, 9, 0, -1));
        Due.index(() -> x.roomRisk(0, 4, 0, -1));
        Due.index(() -> x.roomRisk(0, -1, 0, 0));
        Due.argument(() -> x.roomRisk(0, 0, -60001, 0));
        Due.argument(() -> x.roomRisk(0, 0, 60001, 0));
        Due.argument(() -> x.roomRisk(0, 0, 0, -1));
        Due.argument(() -> x.roomRisk(0, 0, 0, 1001));
        x.roomSize(0, 100, 0);
        Due.is(0, () -> x.roomRisk(0, 1, 9999, 5));
        Due.argument(() -> x.roomRisk(0, 1, 9999, 5));
        Due.is(1, () -> x.roomRisk(0, 1, 10000, 3));
        Due.is(2, () -> x.roomRisk(0, 1, 10001, 100));
        Due.is(0, () -> x.roomRisk(0, 2, 20000, 1000));
        Due.is(0, () -> x.roomRisk(0, 3, 20001, 1000));
        x.hour(0, 0);
        x.hour(0, 0);
        int[] due = {0, 6, 2000, 0};
        for (int k = 0; k < 4; k++) {
            int kind = k;
            Due.is(due[k], () -> x.roomPoints(0, kind));
        }
        Due.is(3, () -> x.roomRisk(0, 1, 10002, 100));
        Due.is(4, () -> x.roomRisk(0, 1, 10003, 100));
        Due.state(() -> x.roomRisk(0, 1, 10004, 100));
        Due.state(() -> x.roomRisk(0, 1, 0, -1));
        Due.index(() -> x.roomPoints(0, 4));
        Due.element(() -> x.roomPoints(1, 0));
    }

    private static void alarms() {
        DigHouse x = room();
        Due.element(() -> x.roomRule(1, 9, 0, 0));
        Due.argument(() -> x.roomRule(0, 4, 0, 1));
        Due.argument(() -> x.roomRule(0, -1, 0, 1));
        Due.argument(() -> x.roomRule(0, 0, 60001, 1));
        Due.argument(() -> x.roomRule(0, 0, 0, 0));
        Due.argument(() -> x.roomRule(0, 0, 0, 100));
        x.roomSize(0, 100, 0);
        Due.is(0, () -> x.roomRule(0, 0, 19999, 3));
        Due.is(1, () -> x.roomRule(0, 1, 20000, 1));
        Due.is(2, () -> x.roomRule(0, 2, 10000, 1));
        Due.is(3, () -> x.roomRule(0, 3, 10001, 99));
        Due.state(() -> x.roomRule(0, 0, 0, 1));
        Due.state(() -> x.roomRule(0, 9, 0, 1));
        for (int h = 0; h < 8; h++) {
            x.hour(0, 0);
        }
        int[][] due = {{3, 0, 3, 6, -1}, {0, -1}, {0, -1}, {1, 0, -1}};
        for (int rule = 0; rule < 4; rule++) {
            for (int k = 0; k < due[rule].length; k++) {
                int r = rule;
                int at = k - 1;
                Due.is(due[rule][k], () -> x.roomAlarm(0, r, at));
            }
        }
        Due.index(() -> x.roomAlarm(0, 4, 0));
        Due.index(() -> x.roomAlarm(0, 0, -2));
        Due.element(() -> x.roomAlarm(1, 9, 0));
        Due.is(-1, () -> x.roomAlarm(0, 0, 2147483647));
        ownHours();
    }

    /** A room's hours are its own. */
    private static void ownHours() {
        DigHouse x = new DigHouse();
        x.place(-1, 100);
        x.hour(0, 0);
        x.pass(3);
        x.hour(0, 0);
        x.room(0);
        x.roomRule(0, 1, 60000, 1);
        x.hour(0, 0);
        Due.is(0, () -> x.roomAlarm(0, 0, 0));
        x.pass(1);
        x.hour(0, 0);
        Due.is(1, () -> x.roomAlarm(0, 0, 1));
        Due.is(2, () -> x.roomCount(0, 0));
    }

    private static void sensors() {
        DigHouse x = room();
        Due.element(() -> x.roomSensor(1, 0, 100001));
        Due.index(() -> x.roomSensor(0, 0, 100001));
        x.hour(0, 0);
        x.hour(0, 0);
        Due.index(() -> x.roomSensor(0, 2, 100001));
        Due.index(() -> x.roomSensor(0, -1, 0));
        Due.argument(() -> x.roomSensor(0, 1, 100001));
        Due.argument(() -> x.roomSensor(0, 1, -100001));
        Due.is(-200000, () -> x.roomCorrected(0, 1));
        x.roomSensor(0, 1, -100000);
        Due.is(-100000, () -> x.roomCorrected(0, 1));
        x.roomSensor(0, 1, 100000);
        Due.is(100000, () -> x.roomCorrected(0, 1));
        Due.is(-200000, () -> x.roomCorrected(0, 0));
    }
}
