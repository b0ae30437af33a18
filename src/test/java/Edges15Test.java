import java.util.function.Supplier;

/** The edges of promise 15: roomDamp up to roomSensor. */
public final class Edges15Test {
    private static final int MIN = Integer.MIN_VALUE;
    private static final int MAX = Integer.MAX_VALUE;

    public static void main(String[] args) {
        bounds();
        none();
        books();
        dew();
        risks();
        pointsAtLevels();
        alarms();
        holds();
        allHours();
        sensors();
        Due.end();
    }

    /** A room with five layers, full risks 0 and 3, four rules and two hours that were run. */
    private static DigHouse full() {
        DigHouse x = Houses.rooms();
        for (int r = 0; r < 4; r++) {
            for (int k = 0; k < 5; k++) {
                x.roomWall(r, 10, 10);
                x.roomRisk(r, 0, -60000 + k, 1000);
                x.roomRisk(r, 3, 59996 + k, 0);
            }
            for (int k = 0; k < 4; k++) {
                x.roomRule(r, k, 0, 99);
            }
        }
        x.hour(0, 0);
        x.hour(0, 0);
        return x;
    }

    private static void bounds() {
        Supplier<DigHouse> house = Edges15Test::full;
        Bounds.of(house, "roomDamp", 2).element(0, 0, 3).hold();
        Bounds.of(house, "roomLayer", 2, 3).element(0, 0, 3).index(1, 0, 4).hold();
        Bounds.of(house, "roomHeld", 2).element(0, 0, 3).hold();
        Bounds.of(house, "roomOn", 2, 1).element(0, 0, 3).index(1, 0, 3).hold();
        Bounds.of(house, "roomBook", 2, 1, 1).element(0, 0, 3).index(1, -1, 4).index(2, 0, 1).hold();
        Bounds.of(house, "roomDew", 2, 3).element(0, 0, 3).index(1, 0, 4).hold();
        Bounds.of(house, "roomRisk", 2, 1, 50, 60).element(0, 0, 3).fixed(1).argument(2, -60000, 60000).argument(3, 0, 1000).hold();
        Bounds.of(Houses::rooms, "roomRisk", 2, 1, 50, 60).element(0, 0, 3).index(1, 0, 3).argument(2, -60000, 60000)
            .argument(3, 0, 1000).hold();
        Bounds.of(house, "roomRisk", 2, 3, 50, 60).element(0, 0, 3).fixed(1).argument(2, -60000, 60000).argument(3, 0, 1000).full(house);
        Bounds.of(house, "roomRisk", 2, 0, 50, 60).element(0, 0, 3).fixed(1).argument(2, -60000, 60000).argument(3, 0, 1000).full(house);
        Bounds.of(house, "roomPoints", 2, 1).element(0, 0, 3).index(1, 0, 3).hold();
        Bounds.of(Houses::rooms, "roomRule", 2, 1, 50, 60).element(0, 0, 3).argument(1, 0, 3).argument(2, -60000, 60000)
            .argument(3, 1, 99).hold().full(house);
        Bounds.of(house, "roomAlarm", 2, 1, 0).element(0, 0, 3).index(1, 0, 3).index(2, -1, MAX).hold();
        Bounds.of(house, "roomSensor", 2, 1, 0).element(0, 0, 3).index(1, 0, 1).argument(2, -100000, 100000).hold();
        DigHouse x = full();
        Due.index(() -> x.roomRisk(3, 4, 0, 0));
        Due.index(() -> x.roomRisk(3, -1, 60001, 0));
    }

    /** A room that is not there, and one in which nothing is yet. */
    private static void none() {
        DigHouse x = new DigHouse();
        Due.element(() -> x.roomDamp(0));
        Due.element(() -> x.roomLayer(0, -1));
        Due.element(() -> x.roomBook(0, -2, 2));
        Due.element(() -> x.roomRisk(0, 4, 0, -1));
        Due.element(() -> x.roomRule(0, 4, 0, 0));
        Due.element(() -> x.roomSensor(0, -1, MAX));
        DigHouse y = Houses.rooms();
        Due.index(() -> y.roomLayer(0, 0));
        Due.index(() -> y.roomDew(0, 0));
        Due.index(() -> y.roomAlarm(0, 0, -1));
        Due.index(() -> y.roomSensor(0, 0, 0));
        Due.is(0, () -> y.roomPoints(0, 3));
    }

    /** What is there is what was there at first and all that came; books go below 0. */
    private static void books() {
        DigHouse x = Houses.rooms();
        Due.is(2000000, () -> x.roomBook(0, -1, 0));
        Due.is(1000000, () -> x.roomBook(0, -1, 1));
        for (int kind = 0; kind < 5; kind++) {
            int k = kind;
            Due.is(0, () -> x.roomBook(0, k, 0));
            Due.is(0, () -> x.roomBook(0, k, 1));
        }
        // Great numbers: the greatest volume, warmed as far as it goes.
        x.roomSize(0, 1000, 1000);
        x.roomMachine(0, 0, 60000, 60000, 100000);
        x.hour(60000, 60000);
        Due.is(60000000, () -> x.roomBook(0, -1, 0));
        Due.is(60000000, () -> x.roomBook(0, -1, 1));
        Due.is(58000000, () -> x.roomBook(0, 0, 0));
        x.hour(-60000, 0);
        Due.is(-60000000 + 100000, () -> x.roomBook(0, -1, 0));
        Due.is(-62000000, () -> x.roomBook(0, 0, 0));
        Due.is(-1000000, () -> x.roomBook(0, 0, 1));
        Due.is(100000, () -> x.roomBook(0, 4, 0));
    }

    /** The damp above the layer's degrees, or above 0 where they are below 0; as much is not above. */
    private static void dew() {
        int[][] due = {{20000, 50}, {20000, 49}, {9999, 100}, {10000, 100}, {10001, 100}, {1, 100}, {0, 100}};
        for (int[] row : due) {
            DigHouse x = Houses.rooms();
            x.roomSize(0, row[1], 0);
            x.roomWall(0, 0, 1);
            x.roomWall(0, 100, 1);
            if (row[0] != 20000) {
                x.hour(row[0], 0);
                x.hour(row[0], 0);
            }
            int damp = x.roomDamp(0);
            for (int k = 0; k < 2; k++) {
                Due.compare(row[0] + " " + (damp > Math.max(0, x.roomLayer(0, k))), row[0] + " " + x.roomDew(0, k));
            }
        }
        // A layer below 0: no damp at all settles not, the least one does.
        DigHouse x = Houses.rooms();
        x.roomWall(0, 100, 1);
        x.roomSize(0, 1000, 1000);
        x.hour(-60000, 0);
        Due.is(-60000, () -> x.roomLayer(0, 0));
        Due.no(() -> x.roomDew(0, 0));
        x.hour(-60000, 1);
        Due.is(1, () -> x.roomDamp(0));
        Due.yes(() -> x.roomDew(0, 0));
        DigHouse y = Houses.rooms();
        y.roomWall(0, 100, 1);
        y.roomSize(0, 1000, 1000);
        y.hour(0, 0);
        y.hour(0, 0);
        y.hour(0, 1);
        Due.is(0, () -> y.roomLayer(0, 0));
        Due.yes(() -> y.roomDew(0, 0));
        y.hour(1, 1);
        y.hour(1, 1);
        Due.is(1, () -> y.roomLayer(0, 0));
        Due.no(() -> y.roomDew(0, 0));
    }

    /** Levels rise, each risk by itself and at most five. */
    private static void risks() {
        DigHouse x = Houses.rooms();
        Due.is(0, () -> x.roomRisk(0, 0, 5, 0));
        Due.argument(() -> x.roomRisk(0, 0, 5, 0));
        Due.argument(() -> x.roomRisk(0, 0, 4, 0));
        Due.argument(() -> x.roomRisk(0, 0, -60000, 0));
        Due.is(1, () -> x.roomRisk(0, 0, 6, 0));
        Due.is(2, () -> x.roomRisk(0, 0, 60000, 0));
        Due.argument(() -> x.roomRisk(0, 0, 60000, 0));
        Due.is(0, () -> x.roomRisk(0, 1, -60000, 0));
        Due.is(1, () -> x.roomRisk(0, 1, -59999, 0));
        Due.is(0, () -> x.roomRisk(1, 0, -60000, 0));
        Due.is(0, () -> x.roomRisk(0, 2, 60000, 1000));
        for (int k = 0; k < 3; k++) {
            x.roomRisk(0, 1, k, 1);
        }
        Due.state(() -> x.roomRisk(0, 1, 60000, 1));
        Due.state(() -> x.roomRisk(0, 1, -1, -1));
        Due.element(() -> x.roomRisk(4, 1, -1, -1));
    }

    /** The last row whose level is not above; damp for risks 0 and 1, degrees for 2 and 3. */
    private static void pointsAtLevels() {
        int[][] due = {{9999, 10001, 3}, {10000, 10001, 3}, {10001, 10002, 0}, {9999, 10000, 5}, {-60000, 9999, 5}, {20000, 60000, 0}};
        for (int[] row : due) {
            DigHouse x = Houses.rooms();
            x.roomSize(0, 100, 0);
            for (int kind = 0; kind < 4; kind++) {
                // For degrees all is 10000 higher.
                int more = kind < 2 ? 0 : 10000;
                x.roomRisk(0, kind, row[0] + (row[0] < 0 ? 0 : more), 3);
                x.roomRisk(0, kind, Math.min(60000, row[1] + more), 5);
            }
            x.hour(0, 0);
            for (int kind = 0; kind < 4; kind++) {
                int k = kind;
                Due.is(row[2], () -> x.roomPoints(0, k));
            }
            x.hour(0, 0);
            for (int kind = 0; kind < 4; kind++) {
                int k = kind;
                Due.is(2 * row[2], () -> x.roomPoints(0, k));
            }
        }
        DigHouse x = Houses.rooms();
        x.roomRisk(3, 3, -60000, 1000);
        for (int h = 0; h < 60; h++) {
            x.hour(0, 0);
        }
        Due.is(60000, () -> x.roomPoints(3, 3));
        Due.is(0, () -> x.roomPoints(2, 3));
    }

    /** Above or below a level, not at it. */
    private static void alarms() {
        int[][] due = {{0, 19999, 1}, {0, 20000, 0}, {0, 20001, 0}, {1, 20001, 1}, {1, 20000, 0}, {1, 19999, 0},
            {2, 9999, 1}, {2, 10000, 0}, {3, 10001, 1}, {3, 10000, 0}, {0, -60000, 1}, {1, 60000, 1}, {2, -60000, 1}, {3, -60000, 0}, {3, 60000, 1}};
        for (int[] row : due) {
            DigHouse x = Houses.rooms();
            x.roomSize(0, 100, 0);
            x.roomRule(0, row[0], row[1], 1);
            x.hour(0, 0);
            Due.is(row[2], () -> x.roomAlarm(0, 0, -1));
            Due.is(row[2] - 1, () -> x.roomAlarm(0, 0, 0));
            Due.is(-1, () -> x.roomAlarm(0, 0, 1));
        }
    }

    /** Again when the latest one is HOLD hours ahead, not one hour less. */
    private static void holds() {
        for (int hold : new int[] {1, 2, 3, 29, 30, 58, 59, 60, 99}) {
            DigHouse x = Houses.rooms();
            x.roomRule(0, 1, 60000, hold);
            for (int h = 0; h < 60; h++) {
                x.hour(0, 0);
            }
            int count = (59 + hold) / hold;
            Due.is(count, () -> x.roomAlarm(0, 0, -1));
            for (int k = 0; k < count; k++) {
                int at = k;
                Due.is(at * hold, () -> x.roomAlarm(0, 0, at));
            }
            Due.is(-1, () -> x.roomAlarm(0, 0, count));
            Due.is(-1, () -> x.roomAlarm(0, 0, MAX));
            Due.index(() -> x.roomAlarm(0, 0, -2));
            Due.index(() -> x.roomAlarm(0, 0, MIN));
            Due.index(() -> x.roomAlarm(0, 1, 0));
        }
        // A rule that is told in between holds from then on, and the hold goes on when the alarm's cause goes.
        DigHouse x = Houses.rooms();
        x.roomSize(0, 100, 1000);
        x.hour(0, 0);
        x.roomRule(0, 0, 100, 2);
        int[] degrees = {101, 100, 101, 101, 102, 100, 100, 101};
        for (int d : degrees) {
            x.hour(d, 0);
        }
        int[] told = {1, 3, 5, 8, -1};
        for (int k = 0; k < 5; k++) {
            int at = k;
            Due.is(told[at], () -> x.roomAlarm(0, 0, at));
        }
    }

    /** The last of sixty hours has its alarm and its sensor's value, too. */
    private static void allHours() {
        DigHouse x = Houses.rooms();
        x.roomRule(3, 3, 60000, 59);
        for (int h = 0; h < 60; h++) {
            x.hour(20000, 10000);
        }
        Due.is(2, () -> x.roomAlarm(3, 0, -1));
        Due.is(59, () -> x.roomAlarm(3, 0, 1));
        x.roomSensor(3, 59, 5);
        Due.index(() -> x.roomSensor(3, 60, 5));
        Due.is(5, () -> x.roomCorrected(3, 59));
        x.roomCheck(3, 59, 7);
        Due.is(7, () -> x.roomCorrected(3, 59));
        Due.is(0, () -> x.roomSilent(3, 0));
        Due.is(-1, () -> x.roomSilent(3, 59));
        Due.index(() -> x.roomSilent(3, 60));
    }

    /** A value takes the place of an earlier one, for each hour by itself. */
    private static void sensors() {
        DigHouse x = Houses.hours(3);
        Due.is(-200000, () -> x.roomCorrected(0, 0));
        x.roomSensor(0, 0, 100000);
        x.roomSensor(0, 2, -100000);
        Due.is(100000, () -> x.roomCorrected(0, 0));
        Due.is(-200000, () -> x.roomCorrected(0, 1));
        Due.is(-100000, () -> x.roomCorrected(0, 2));
        Due.argument(() -> x.roomSensor(0, 0, 100001));
        Due.argument(() -> x.roomSensor(0, 0, -100001));
        Due.is(100000, () -> x.roomCorrected(0, 0));
        x.roomSensor(0, 0, 0);
        Due.is(0, () -> x.roomCorrected(0, 0));
        Due.is(-200000, () -> x.roomCorrected(1, 0));
        // A room that came later has fewer hours.
        DigHouse y = new DigHouse();
        y.place(-1, 1);
        y.place(-1, 1);
        y.room(0);
        y.hour(0, 0);
        y.room(1);
        y.hour(0, 0);
        y.roomSensor(0, 1, 3);
        Due.index(() -> y.roomSensor(1, 1, 3));
        y.roomSensor(1, 0, 4);
        Due.is(4, () -> y.roomCorrected(1, 0));
        Due.is(1, () -> y.roomCount(1, 0));
        Due.is(2, () -> y.roomCount(0, 0));
    }
}
