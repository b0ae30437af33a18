/** placeKey, placeBox, placeWhere, placeLast, placeHistory, placeDoor, placePasses, placeWay, placePlanned, placeUsed, placeQuiet. */
public final class Promise12Test {
    public static void main(String[] args) {
        keysAndBoxes();
        boxesWithinBoxes();
        histories();
        lastPlaces();
        doors();
        turnedThrough();
        ways();
        plans();
        mostPlans();
        quiet();
        Due.end();
    }

    private static DigHouse house(int places, int... sizes) {
        DigHouse x = new DigHouse();
        x.context();
        for (int o = 0; o * 4 < sizes.length; o++) {
            x.find(0, 0, -1);
            x.object(o, sizes[4 * o], sizes[4 * o + 1], sizes[4 * o + 2], sizes[4 * o + 3]);
        }
        for (int p = 0; p < places; p++) {
            x.place(-1, 100);
        }
        return x;
    }

    private static void keysAndBoxes() {
        DigHouse x = house(1, 1, 1, 1, 1);
        Due.element(() -> x.placeKey(10, true));
        Due.element(() -> x.placeKey(-1, true));
        Due.yes(() -> x.placeKey(9, true));
        Due.no(() -> x.placeKey(9, true));
        Due.yes(() -> x.placeKey(9, false));
        Due.no(() -> x.placeKey(0, false));
        Due.element(() -> x.placeBox(1));
        Due.yes(() -> x.placeBox(0));
        Due.no(() -> x.placeBox(0));
        Due.element(() -> x.placeWhere(1, 0));
        Due.is(-1, () -> x.placeWhere(0, -5));
        Due.is(-1, () -> x.placeLast(0));
    }

    /** What lies in a box goes with it, and weighs where it is. */
    private static void boxesWithinBoxes() {
        DigHouse x = house(2, 1, 1, 1, 30, 2, 2, 2, 30, 3, 3, 3, 30, 4, 4, 4, 30);
        x.placeBox(1);
        x.placeBox(2);
        Due.is(0, () -> x.pack(0, 1));
        Due.is(0, () -> x.pack(1, 2));
        Due.is(-1, () -> x.placeWhere(0, 0));
        Due.is(0, () -> x.placeUsed(0, 0));
        Due.is(0, () -> x.carry(3, 0, 0, 0));
        Due.is(2, () -> x.carry(2, 0, 0, 0));
        Due.is(0, () -> x.carry(2, 1, 0, 0));
        Due.is(1, () -> x.placeWhere(0, 0));
        Due.is(90, () -> x.placeUsed(1, 0));
        x.hour(0, 0);
        Due.is(0, () -> x.carry(0, 0, 0, 0));
        Due.is(0, () -> x.placeWhere(0, 1));
        Due.is(1, () -> x.placeWhere(0, 0));
        Due.is(60, () -> x.placeUsed(1, 1));
        Due.is(60, () -> x.placeUsed(0, 999999999));
        Due.is(0, () -> x.placeUsed(1, -1));
        Due.yes(() -> x.lose(2));
        Due.is(-1, () -> x.placeWhere(1, 1));
        Due.is(1, () -> x.placeWhere(1, 0));
        Due.element(() -> x.placeUsed(2, 0));
    }

    private static void histories() {
        DigHouse x = house(1, 1, 1, 1, 1, 2, 2, 2, 1);
        x.placeBox(1);
        Due.element(() -> x.placeHistory(0, 0, 9));
        x.carry(0, 0, 0, 0);
        x.hour(0, 0);
        x.pack(0, 1);
        x.carry(0, 0, 0, 0);
        x.lose(0);
        int[][] due = {{0, 0, 0}, {1, 1, 1}, {1, 0, 0}, {1, 2, -1}};
        for (int k = 0; k < 4; k++) {
            for (int what = 0; what < 3; what++) {
                int row = k;
                int w = what;
                Due.is(due[k][what], () -> x.placeHistory(0, row, w));
            }
        }
        Due.element(() -> x.placeHistory(0, 4, 0));
        Due.element(() -> x.placeHistory(0, -1, 0));
        Due.element(() -> x.placeHistory(2, 0, 0));
        Due.argument(() -> x.placeHistory(0, 0, 3));
        Due.argument(() -> x.placeHistory(0, 0, -1));
    }

    private static void lastPlaces() {
        DigHouse x = house(2, 1, 1, 1, 1, 2, 2, 2, 1);
        Due.element(() -> x.placeLast(2));
        x.placeBox(1);
        x.carry(0, 0, 0, 0);
        x.lose(0);
        Due.is(-1, () -> x.placeLast(0));
        x.hour(0, 0);
        x.pack(0, 1);
        x.carry(1, 1, 0, 0);
        Due.is(1, () -> x.placeLast(0));
        x.hour(0, 0);
        x.lose(1);
        Due.is(-1, () -> x.placeWhere(0, 2));
        Due.is(1, () -> x.placeLast(0));
        Due.is(1, () -> x.placeLast(1));
    }

    private static void doors() {
        DigHouse x = house(2, 3, 4, 50, 1, 6, 10, 100, 1, 1, 10, 10000, 1);
        Due.element(() -> x.placeDoor(2, 2, 0, 0));
        Due.argument(() -> x.placeDoor(0, 0, 5, 5));
        Due.argument(() -> x.placeDoor(0, 1, 0, 5));
        Due.argument(() -> x.placeDoor(0, 1, 5, 10001));
        Due.element(() -> x.placePasses(0, 0));
        Due.is(0, () -> x.placeDoor(0, 1, 3, 4));
        Due.is(1, () -> x.placeDoor(1, 0, 3, 3));
        Due.yes(() -> x.placePasses(0, 0));
        Due.no(() -> x.placePasses(0, 1));
        Due.element(() -> x.placePasses(3, 0));
        Due.element(() -> x.placePasses(0, 2));
        int wide = x.placeDoor(0, 1, 8, 8);
        Due.no(() -> x.placePasses(1, wide));
        int turned = x.placeDoor(0, 1, 8, 9);
        Due.no(() -> x.placePasses(1, turned));
        int fits = x.placeDoor(0, 1, 6, 10);
        Due.yes(() -> x.placePasses(1, fits));
        int square = x.placeDoor(0, 1, 8, 7);
        Due.no(() -> x.placePasses(2, square));
        int slanted = x.placeDoor(0, 1, 9, 9);
        Due.yes(() -> x.placePasses(2, slanted));
        for (int d = 7; d < 40; d++) {
            int door = d;
            Due.is(door, () -> x.placeDoor(0, 1, 10000, 10000));
        }
        Due.state(() -> x.placeDoor(0, 1, 1, 1));
        Due.argument(() -> x.placeDoor(0, 1, 0, 1));
        Due.is(40, () -> x.placeCount(2));
        Due.yes(() -> x.placePasses(2, 39));
    }

    /** A face that is too long goes through turned, if it is slim enough; 20 by 5 goes just through 19 by 16. */
    private static void turnedThrough() {
        DigHouse x = house(2, 5, 100, 20, 1, 1, 100, 13, 1, 19, 4, 1000, 1);
        Due.is(0, () -> x.placeDoor(0, 1, 16, 19));
        Due.is(1, () -> x.placeDoor(0, 1, 19, 15));
        Due.is(2, () -> x.placeDoor(0, 1, 7, 12));
        Due.is(3, () -> x.placeDoor(0, 1, 12, 6));
        Due.is(4, () -> x.placeDoor(0, 1, 18, 14));
        boolean[][] due = {{true, false, false, false, false}, {true, true, true, false, true}, {true, true, false, false, true}};
        for (int o = 0; o < 3; o++) {
            for (int d = 0; d < 5; d++) {
                Due.compare(o + " " + d + " " + due[o][d], o + " " + d + " " + x.placePasses(o, d));
            }
        }
    }

    private static void ways() {
        DigHouse x = house(5, 2, 2, 2, 1);
        x.placeDoor(0, 1, 2, 2);
        x.placeDoor(1, 2, 2, 2);
        x.placeDoor(2, 3, 1, 9);
        x.placeDoor(4, 0, 3, 3);
        Due.is(-1, () -> x.placeWay(0, 0));
        Due.element(() -> x.placeWay(0, 5));
        Due.element(() -> x.placeWay(1, 0));
        x.carry(0, 2, 0, 0);
        int[] due = {2, 1, 0, -1, 3};
        for (int p = 0; p < 5; p++) {
            int place = p;
            Due.is(due[p], () -> x.placeWay(0, place));
        }
        x.placeDoor(4, 2, 2, 2);
        Due.is(1, () -> x.placeWay(0, 4));
        x.lose(0);
        Due.is(-1, () -> x.placeWay(0, 2));
    }

    private static void plans() {
        DigHouse x = house(1, 1, 1, 1, 60, 1, 1, 1, 50, 1, 1, 1, 40);
        x.place(0, 55);
        Due.element(() -> x.placePlanned(3, 0, -1, 0));
        Due.element(() -> x.placePlanned(0, 2, -1, 0));
        Due.argument(() -> x.placePlanned(0, 0, -1, 0));
        Due.argument(() -> x.placePlanned(0, 0, 5, 4));
        Due.argument(() -> x.placePlanned(0, 0, 5, 1000001));
        Due.is(1, () -> x.placePlanned(0, 1, 0, 5));
        Due.is(0, () -> x.placePlanned(0, 0, 10, 20));
        Due.is(0, () -> x.placeUsed(0, 9));
        Due.is(60, () -> x.placeUsed(0, 10));
        Due.is(60, () -> x.placeUsed(0, 20));
        Due.is(0, () -> x.placeUsed(0, 21));
        Due.is(1, () -> x.placePlanned(1, 1, 5, 10));
        Due.is(0, () -> x.placePlanned(1, 1, 5, 9));
        Due.is(1, () -> x.placePlanned(1, 0, 20, 1000000));
        Due.is(0, () -> x.placePlanned(1, 0, 21, 1000000));
        Due.is(2, () -> x.carry(1, 1, 0, 0));
        Due.is(2, () -> x.carry(0, 0, 0, 0));
        Due.is(0, () -> x.carry(2, 0, 0, 0));
        Due.is(0, () -> x.placePlanned(2, 0, 10, 20));
        Due.is(100, () -> x.placeUsed(0, 10));
        x.pass(1);
        Due.is(0, () -> x.placePlanned(2, 1, 3, 4));
        x.lose(2);
        Due.argument(() -> x.placePlanned(2, 1, 23, 24));
        Due.is(24, () -> x.placeCount(4));
    }

    private static void mostPlans() {
        DigHouse x = house(1, 1, 1, 1, 1);
        for (int p = 0; p < 30; p++) {
            Due.is(0, () -> x.placePlanned(0, 0, 0, 0));
        }
        Due.state(() -> x.placePlanned(0, 0, 0, 0));
        Due.argument(() -> x.placePlanned(0, 0, 1, 0));
        Due.is(1, () -> x.placeUsed(0, 0));
        Due.is(30, () -> x.placeCount(3));
    }

    private static void quiet() {
        DigHouse x = house(3, 1, 1, 1, 1);
        x.place(0, 100);
        Due.element(() -> x.placeQuiet(4, -1, 0));
        Due.argument(() -> x.placeQuiet(0, -1, 0));
        Due.argument(() -> x.placeQuiet(0, 5, 4));
        x.carry(0, 3, 0, 0);
        x.placeQuiet(0, 0, 0);
        Due.is(0, () -> x.carry(0, 0, 0, 0));
        Due.is(1, () -> x.carry(0, 1, 0, 0));
        x.hour(0, 0);
        Due.is(0, () -> x.carry(0, 1, 0, 0));
        x.placeQuiet(0, 1, 2147483647);
        Due.is(1, () -> x.carry(0, 3, 0, 0));
        Due.is(0, () -> x.carry(0, 2, 0, 0));
        for (int q = 2; q < 20; q++) {
            x.placeQuiet(0, 0, 0);
        }
        Due.state(() -> x.placeQuiet(0, 0, 0));
        Due.argument(() -> x.placeQuiet(0, 1, 0));
    }
}
