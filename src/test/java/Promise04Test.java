/** origin, from, year, look, shown, present, light, warm, inRoom, broken, had. */
public final class Promise04Test {
    public static void main(String[] args) {
        origins();
        years();
        looks();
        manyLooks();
        asked();
        Due.end();
    }

    private static DigHouse house() {
        DigHouse x = new DigHouse();
        for (int c = 0; c < 3; c++) {
            x.context();
        }
        x.find(2, 1, 4);
        x.find(1, 0, -1);
        x.object(0, 5, 5, 5, 5);
        x.object(1, 5, 5, 5, 5);
        return x;
    }

    private static void origins() {
        DigHouse x = house();
        Due.element(() -> x.origin(0, 0));
        Due.element(() -> x.origin(2, -1));
        Due.element(() -> x.origin(0, -2));
        Due.element(() -> x.from(2));
        Due.is(2, () -> x.from(0));
        Due.is(1, () -> x.from(1));
        x.claimSource(0, 1);
        x.claimNew();
        x.claimRests(0, 0, true);
        Due.is(-1, () -> x.origin(0, 0));
        Due.is(0, () -> x.origin(0, 0));
        x.claimOpinion(0, 0, 0, 1, 0);
        Due.is(2, () -> x.from(0));
        x.pass(1);
        Due.is(0, () -> x.from(0));
        x.claimOpinion(1, 0, 1, 1, 0);
        Due.is(2, () -> x.from(0));
        x.claimOpinion(2, 0, 3, 1, 0);
        x.claimOpinion(1, 0, 3, 1, 0);
        Due.is(2, () -> x.from(0));
        x.context();
        Due.is(3, () -> x.from(0));
        Due.is(0, () -> x.origin(0, -1));
        Due.is(2, () -> x.from(0));
    }

    private static void years() {
        DigHouse x = house();
        for (int y = 0; y < 12; y++) {
            x.curveRow(y, 400 - 10 * y, 10);
        }
        x.curveDate(350, 10);
        Due.element(() -> x.year(2, 0, 0));
        Due.state(() -> x.year(0, 99, 99));
        x.dated(2, 0);
        x.solve();
        Due.element(() -> x.year(2, 0, 0));
        Due.element(() -> x.year(1, 0, 0));
        Due.element(() -> x.year(0, 12, 0));
        Due.element(() -> x.year(0, -1, 0));
        Due.element(() -> x.year(0, 5, 48));
        Due.element(() -> x.year(0, 5, -1));
        Due.is(8, () -> x.year(0, 5, 0));
        Due.is(8, () -> x.year(0, 5, 1));
        Due.is(9, () -> x.year(0, 5, 2));
        Due.is(1, () -> x.year(0, 5, 4));
        Due.is(0, () -> x.year(0, 5, 47));
        x.claimSource(0, 0);
        x.claimNew();
        x.claimRests(0, 0, true);
        x.claimOpinion(0, 0, 2, 0, 0);
        x.origin(1, 0);
        Due.is(8, () -> x.year(1, 5, 0));
    }

    private static void right(DigHouse x, String text) {
        for (char c : text.toCharArray()) {
            x.rightUnit(c, 0, 0, 0);
        }
        x.rightRule();
    }

    private static void looks() {
        DigHouse x = house();
        Due.state(() -> x.shown());
        Due.element(() -> x.look(0, 0, 0, 0));
        x.rightPerson(0);
        Due.element(() -> x.look(1, 0, 0, 0));
        Due.element(() -> x.look(0, 2, 0, 0));
        Due.element(() -> x.look(0, 0, 6, 0));
        Due.element(() -> x.look(0, 0, -1, 0));
        Due.element(() -> x.look(0, 0, 0, 4));
        Due.element(() -> x.look(0, 0, 0, -1));
        Due.state(() -> x.shown());
        Due.is(0, () -> x.look(0, 0, 3, 0));
        Due.is(0, () -> x.shown());
        Due.is(0, () -> x.rightCount(5));
        right(x, "s");
        right(x, "m p1");
        int[] first = {-1, 0, -1, -1000000, 2, 0};
        for (int f = 0; f < 6; f++) {
            int field = f;
            Due.is(2, () -> x.look(0, 0, field, 0));
            Due.is(first[field], () -> x.shown());
        }
        x.place(-1, 100);
        x.room(0);
        x.lamp(0, 1999);
        x.carry(0, 0, 0, 0);
        x.roomSize(0, 100, 1000);
        x.hour(-12345, 0);
        x.ownerWorth(0, 0, 0, 2147483647);
        x.ownerWorth(0, 1, 0, 5);
        x.ownerWorth(0, 0, 1, 6);
        x.methodRead();
        x.methodRight(0, 0, true);
        x.treat(0, 0, 0, 0);
        int[] now = {0, 1999, 2147483647, -12345, 2, 1};
        int[] masked = {0, 1000, 2147483000, -12000, 0, 0};
        for (int f = 0; f < 6; f++) {
            int field = f;
            Due.is(2, () -> x.look(0, 0, field, 2));
            Due.is(now[field], () -> x.shown());
            Due.is(1, () -> x.look(0, 0, field, 1));
            Due.is(masked[field], () -> x.shown());
        }
        Due.is(18, () -> x.rightCount(5));
        Due.is(1, () -> x.rightLook(17, 5));
        Due.is(5, () -> x.rightLook(17, 2));
        x.pass(1);
        Due.is(2, () -> x.look(0, 0, 2, 2));
        Due.is(5, () -> x.shown());
        Due.is(1, () -> x.rightLook(18, 4));
        x.lose(0);
        x.look(0, 0, 0, 0);
        Due.is(-1, () -> x.shown());
        Due.element(() -> x.look(0, 0, 9, 0));
        Due.is(-1, () -> x.shown());
    }

    private static void manyLooks() {
        DigHouse x = house();
        x.rightPerson(0);
        x.rightPerson(0);
        right(x, "s");
        for (int i = 0; i < 100; i++) {
            x.look(0, 0, 4, 0);
        }
        Due.is(2, () -> x.look(1, 1, 4, 0));
        Due.is(1, () -> x.shown());
        Due.is(100, () -> x.rightCount(5));
        Due.is(-1, () -> x.rightLooked(1, 0));
        Due.element(() -> x.rightLook(100, 0));
    }

    private static void asked() {
        DigHouse x = house();
        Due.element(() -> x.light(2));
        Due.element(() -> x.warm(-1));
        Due.element(() -> x.inRoom(2));
        Due.index(() -> x.broken(0));
        Due.index(() -> x.broken(-1));
        Due.element(() -> x.had(6));
        Due.element(() -> x.had(-1));
        Due.is(2, () -> x.had(0));
        Due.is(2, () -> x.had(1));
        Due.is(0, () -> x.had(2));
        Due.is(7, () -> x.had(4));
        Due.is(0, () -> x.had(5));
        x.hour(0, 0);
        Due.is(1, () -> x.had(3));
        Due.is(8, () -> x.had(4));
        x.save();
        Due.is(8, () -> x.had(4));
        Due.is(8, () -> x.had(5));
        cold();
    }

    /** The warmest degrees may be less than those that stand for none. */
    private static void cold() {
        DigHouse x = house();
        x.place(-1, 100);
        x.room(0);
        x.roomSize(0, 1000, 1000);
        x.hour(-60000, 0);
        x.roomSize(0, 1, 0);
        Due.is(-1000000, () -> x.warm(0));
        x.carry(0, 0, 0, 0);
        x.hour(0, 0);
        int due = x.roomDegrees(0);
        Due.compare("true", String.valueOf(due < -1000000));
        Due.is(due, () -> x.warm(0));
    }
}
