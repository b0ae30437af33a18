import java.util.function.Supplier;

/** The edges of promise 12: placeKey up to placeQuiet. */
public final class Edges12Test {
    private static final int MIN = Integer.MIN_VALUE;
    private static final int MAX = Integer.MAX_VALUE;

    public static void main(String[] args) {
        bounds();
        where();
        latest();
        longAgo();
        boxesInBoxes();
        histories();
        doors();
        greatDoors();
        ways();
        plans();
        used();
        quietTimes();
        Due.end();
    }

    private static DigHouse doors(int count) {
        DigHouse x = Houses.museum();
        for (int d = 0; d < count; d++) {
            int door = d;
            Due.is(door, () -> x.placeDoor(door % 23, 23, 10000, 1));
        }
        return x;
    }

    private static DigHouse plans(int count) {
        DigHouse x = Houses.museum();
        for (int p = 0; p < count; p++) {
            Due.is(0, () -> x.placePlanned(0, 0, 1000000, 1000000));
        }
        return x;
    }

    private static DigHouse quiets(int count) {
        DigHouse x = Houses.museum();
        for (int q = 0; q < count; q++) {
            x.placeQuiet(q, q, MAX);
        }
        return x;
    }

    /** Objects 0 and 9 with 40 and with one row. */
    private static DigHouse rows() {
        DigHouse x = Houses.museum();
        x.carry(9, 0, 0, 0);
        for (int k = 0; k < 40; k++) {
            x.carry(0, k % 24, 0, 0);
        }
        return x;
    }

    private static void bounds() {
        Supplier<DigHouse> house = Houses::museum;
        Supplier<DigHouse> later = () -> {
            DigHouse x = Houses.museum();
            x.pass(2);
            x.carry(0, 0, 0, 0);
            x.pass(2);
            return x;
        };
        Bounds.of(house, "placeKey", 3, true).element(0, 0, 9).hold();
        Bounds.of(house, "placeBox", 3).element(0, 0, 9).hold();
        Bounds.of(Edges12Test::rows, "placeWhere", 3, 5).element(0, 0, 9).hold();
        Bounds.of(Edges12Test::rows, "placeLast", 3).element(0, 0, 9).hold();
        Bounds.of(Edges12Test::rows, "placeHistory", 0, 5, 1).fixed(0).element(1, 0, 39).argument(2, 0, 2).hold();
        Bounds.of(Edges12Test::rows, "placeHistory", 9, 0, 1).fixed(0).element(1, 0, 0).argument(2, 0, 2).hold();
        Bounds.of(house, "placeDoor", 3, 4, 50, 60).element(0, 0, 23).element(1, 0, 23).argument(2, 1, 10000).argument(3, 1, 10000)
            .hold().full(() -> doors(40));
        Bounds.of(() -> doors(40), "placePasses", 3, 4).element(0, 0, 9).element(1, 0, 39).hold();
        Bounds.of(() -> doors(40), "placeWay", 3, 4).element(0, 0, 9).element(1, 0, 23).hold();
        Bounds.of(house, "placePlanned", 3, 4, 50, 60).element(0, 0, 9).element(1, 0, 23).argument(2, 0, 60).argument(3, 50, 1000000)
            .hold().full(() -> plans(30));
        Bounds.of(later, "placePlanned", 3, 4, 50, 60).element(0, 0, 9).element(1, 0, 23).argument(2, 48, 60).argument(3, 50, 1000000).hold();
        Bounds.of(house, "placePlanned", 3, 4, 1000000, 1000000).element(0, 0, 9).element(1, 0, 23).argument(2, 0, 1000000)
            .argument(3, 1000000, 1000000).hold();
        Bounds.of(Edges12Test::rows, "placeUsed", 3, 5).element(0, 0, 23).hold();
        Bounds.of(house, "placeQuiet", 3, 50, 60).element(0, 0, 23).argument(1, 0, 60).argument(2, 50, MAX).hold().full(() -> quiets(20));
        Bounds.of(house, "placeQuiet", 3, MAX, MAX).element(0, 0, 23).argument(1, 0, MAX).argument(2, MAX, MAX).hold();
        DigHouse none = new DigHouse();
        Due.element(() -> none.placeBox(0));
        Due.element(() -> none.placeWhere(0, 0));
        Due.element(() -> none.placeLast(0));
        Due.element(() -> none.placeDoor(0, 0, 0, 0));
        Due.element(() -> none.placeUsed(0, 0));
        Due.element(() -> none.placeQuiet(0, -1, 0));
        Due.yes(() -> none.placeKey(9, true));
    }

    /** At each hour the last row that is not above it; ahead of the first one, nowhere. */
    private static void where() {
        DigHouse x = Houses.museum();
        x.hour(0, 0);
        x.carry(0, 5, 0, 0);
        x.hour(0, 0);
        x.carry(0, 6, 0, 0);
        x.carry(0, 7, 0, 0);
        x.hour(0, 0);
        x.lose(0);
        int[][] due = {{MIN, -1}, {-1, -1}, {0, -1}, {1, 5}, {2, 7}, {3, -1}, {MAX, -1}};
        for (int[] row : due) {
            Due.is(row[1], () -> x.placeWhere(0, row[0]));
            Due.is(row[1] == 5 ? 100 : 0, () -> x.placeUsed(5, row[0]));
            Due.is(0, () -> x.placeUsed(6, row[0]));
            Due.is(row[1] == 7 ? 100 : 0, () -> x.placeUsed(7, row[0]));
        }
        Due.is(7, () -> x.placeLast(0));
        Due.is(-1, () -> x.placeLast(9));
    }

    /** Where it was latest, by hours: a place that it left in the hour when it came does not count. */
    private static void latest() {
        DigHouse x = Houses.museum();
        x.carry(0, 0, 0, 0);
        Due.is(0, () -> x.placeLast(0));
        x.lose(0);
        Due.is(-1, () -> x.placeLast(0));
        x.carry(0, 3, 0, 0);
        x.hour(0, 0);
        x.carry(0, 4, 0, 0);
        x.lose(0);
        Due.is(3, () -> x.placeLast(0));
        // The hours of others don't matter, and neither do those that went by without being told of.
        x.pass(5);
        x.carry(1, 9, 0, 0);
        Due.is(3, () -> x.placeLast(0));
        x.placeBox(2);
        DigHouse y = Houses.contexts(1);
        for (int o = 0; o < 2; o++) {
            y.find(0, 0, 0);
            y.object(o, 1 + o, 1 + o, 1 + o, 1);
        }
        y.place(-1, 9);
        y.place(-1, 9);
        y.placeBox(1);
        y.pack(0, 1);
        Due.is(-1, () -> y.placeLast(0));
        y.carry(1, 1, 0, 0);
        y.hour(0, 0);
        y.lose(1);
        Due.is(1, () -> y.placeLast(0));
        y.hour(0, 0);
        y.carry(1, 0, 0, 0);
        Due.is(0, () -> y.placeLast(0));
        y.hour(0, 0);
        y.carry(0, 1, 0, 0);
        y.lose(0);
        Due.is(0, () -> y.placeLast(0));
    }

    /** Over all hours, however many were told of since. */
    private static void longAgo() {
        DigHouse x = Houses.museum();
        x.carry(0, 7, 0, 0);
        x.hour(0, 0);
        x.lose(0);
        for (int k = 0; k < 78; k++) {
            x.pass(1);
            x.carry(1 + k / 39, 3, 0, 0);
        }
        Due.is(7, () -> x.placeLast(0));
        Due.is(3, () -> x.placeLast(1));
        Due.is(-1, () -> x.placeLast(5));
    }

    /** Ten objects, one in the other, are where the outermost one is. */
    private static void boxesInBoxes() {
        DigHouse x = Houses.contexts(1);
        for (int o = 0; o < 10; o++) {
            x.find(0, 0, 0);
            x.object(o, 10 + o, 10 + o, 10 + o, 1000000);
            x.placeBox(o);
        }
        x.place(-1, 10000000);
        x.place(-1, 9999999);
        for (int o = 0; o < 9; o++) {
            int object = o;
            Due.is(0, () -> x.pack(object, object + 1));
        }
        Due.is(-1, () -> x.placeWhere(0, 0));
        Due.is(2, () -> x.carry(9, 1, 0, 0));
        Due.is(0, () -> x.carry(9, 0, 0, 0));
        for (int o = 0; o < 10; o++) {
            int object = o;
            Due.is(0, () -> x.placeWhere(object, 0));
            Due.is(1, () -> x.pack(9, object));
        }
        Due.is(10000000, () -> x.placeUsed(0, 0));
        Due.is(0, () -> x.carry(0, 1, 0, 0));
        Due.is(9000000, () -> x.placeUsed(0, 0));
        // It is in box 1 no more, so that this one would be barred by its sizes alone.
        Due.is(2, () -> x.pack(1, 0));
    }

    private static void histories() {
        DigHouse x = rows();
        for (int k = 0; k < 40; k++) {
            int row = k;
            Due.is(0, () -> x.placeHistory(0, row, 0));
            Due.is(0, () -> x.placeHistory(0, row, 1));
            Due.is(k % 24, () -> x.placeHistory(0, row, 2));
        }
        // Object, row and what, in this order.
        Due.element(() -> x.placeHistory(10, 0, 3));
        Due.element(() -> x.placeHistory(0, 40, 3));
        Due.element(() -> x.placeHistory(1, 0, 3));
        Due.argument(() -> x.placeHistory(0, 39, 3));
        Due.argument(() -> x.placeHistory(0, 39, MIN));
    }

    /** A face that just goes through, and one that just does not; sizes and doors may be told in any order. */
    private static void doors() {
        int[][] due = {
            {30, 10, 20, 20, 10, 1}, {30, 10, 20, 10, 20, 1}, {30, 10, 20, 19, 10, 0}, {30, 10, 20, 20, 9, 0}, {10, 20, 30, 9, 10000, 0},
            {1, 1, 1, 1, 1, 1}, {10000, 10000, 10000, 10000, 10000, 1}, {10000, 10000, 10000, 10000, 9999, 0},
            {10000, 10000, 1, 10000, 1, 1}, {10000, 10000, 2, 10000, 1, 0}, {1, 10000, 1, 1, 1, 1},
        };
        for (int[] row : due) {
            DigHouse x = Houses.contexts(1);
            x.find(0, 0, 0);
            x.object(0, row[0], row[1], row[2], 1);
            x.place(-1, 1);
            x.place(-1, 1);
            x.placeDoor(0, 1, row[3], row[4]);
            Due.compare(row[0] + " " + row[1] + " " + row[2] + " " + row[3] + " " + row[4] + ": " + (row[5] == 1),
                row[0] + " " + row[1] + " " + row[2] + " " + row[3] + " " + row[4] + ": " + x.placePasses(0, 0));
        }
        DigHouse x = Houses.museum();
        Due.argument(() -> x.placeDoor(5, 5, 1, 1));
        Due.element(() -> x.placeDoor(24, 24, 1, 1));
        DigHouse full = doors(40);
        Due.argument(() -> full.placeDoor(5, 5, 1, 1));
        Due.state(() -> full.placeDoor(5, 6, 1, 1));
    }

    /** Long faces, turned: what stands in the words, by great numbers. */
    private static void greatDoors() {
        int[][] faces = {{10000, 1}, {10000, 100}, {10000, 2929}, {9999, 4142}, {14, 1}, {5, 4}, {20, 5}, {101, 99}, {8000, 7999}};
        int[][] doors = {{9999, 9999}, {9999, 9998}, {8000, 8000}, {7072, 7072}, {7071, 7071}, {10, 10}, {13, 4}, {4, 4}, {19, 16}, {19, 15},
            {100, 100}, {100, 99}, {7999, 7999}, {10000, 9999}};
        int passed = 0;
        for (int[] face : faces) {
            DigHouse x = Houses.contexts(1);
            x.find(0, 0, 0);
            // The other two faces are at least as great: they go through only where this one does.
            x.object(0, face[0], face[1], 10000, 1);
            x.place(-1, 1);
            x.place(-1, 1);
            for (int[] door : doors) {
                int d = x.placeDoor(0, 1, door[0], door[1]);
                boolean due = goes(face[0], face[1], door[0], door[1]) || goes(10000, face[1], door[0], door[1])
                    || goes(10000, face[0], door[0], door[1]);
                passed += due ? 1 : 0;
                String told = face[0] + " " + face[1] + " " + door[0] + " " + door[1] + " ";
                Due.compare(told + due, told + x.placePasses(0, d));
            }
        }
        Due.compare("true", String.valueOf(passed > 20 && passed < faces.length * doors.length - 20));
        // 20 by 5 goes just through 19 by 16: both sides are 281250.
        Due.compare("true", String.valueOf(goes(20, 5, 19, 16) && !goes(20, 5, 19, 15)));
        // A square face is never turned through what it does not pass as it is.
        DigHouse x = Houses.contexts(1);
        x.find(0, 0, 0);
        x.object(0, 11, 11, 11, 1);
        x.place(-1, 1);
        x.place(-1, 1);
        x.placeDoor(0, 1, 10000, 10);
        x.placeDoor(0, 1, 11, 11);
        Due.no(() -> x.placePasses(0, 0));
        Due.yes(() -> x.placePasses(0, 1));
    }

    private static boolean goes(int one, int other, int width, int height) {
        java.math.BigInteger p = java.math.BigInteger.valueOf(Math.max(one, other));
        java.math.BigInteger q = java.math.BigInteger.valueOf(Math.min(one, other));
        java.math.BigInteger w = java.math.BigInteger.valueOf(Math.max(width, height));
        java.math.BigInteger h = java.math.BigInteger.valueOf(Math.min(width, height));
        if (q.compareTo(h) > 0) {
            return false;
        }
        java.math.BigInteger left = w.add(h).pow(2).multiply(p.subtract(q).pow(2)).add(w.subtract(h).pow(2).multiply(p.add(q).pow(2)));
        java.math.BigInteger right = p.pow(2).subtract(q.pow(2)).pow(2).multiply(java.math.BigInteger.TWO);
        return p.compareTo(w) <= 0 || left.compareTo(right) >= 0;
    }

    /** The fewest doors: none where it is, 23 at most; through doors on both sides, and not by places within places. */
    private static void ways() {
        DigHouse x = Houses.museum();
        for (int p = 1; p < 24; p++) {
            x.placeDoor(p, p - 1, 20, 10);
        }
        Due.is(-1, () -> x.placeWay(0, 0));
        x.carry(0, 0, 0, 0);
        for (int p = 0; p < 24; p++) {
            int place = p;
            Due.is(place, () -> x.placeWay(0, place));
        }
        x.carry(0, 23, 0, 0);
        Due.is(23, () -> x.placeWay(0, 0));
        x.placeDoor(23, 0, 19, 10);
        Due.is(23, () -> x.placeWay(0, 0));
        x.placeDoor(0, 23, 20, 10);
        Due.is(1, () -> x.placeWay(0, 0));
        Due.is(2, () -> x.placeWay(0, 1));
        Due.is(12, () -> x.placeWay(0, 11));
        Due.is(11, () -> x.placeWay(0, 12));
        x.lose(0);
        Due.is(-1, () -> x.placeWay(0, 0));
        DigHouse y = Houses.objects(1);
        y.place(-1, 1000);
        y.place(0, 1000);
        y.carry(0, 1, 0, 0);
        Due.is(-1, () -> y.placeWay(0, 0));
        Due.is(0, () -> y.placeWay(0, 1));
    }

    /** A plan just holds room up to the load, in the place and in those in which it lies. */
    private static void plans() {
        DigHouse x = Houses.objects(4);
        x.place(-1, 300);
        x.place(0, 200);
        Due.is(0, () -> x.placePlanned(0, 1, 5, 10));
        Due.is(0, () -> x.placePlanned(1, 1, 10, 15));
        Due.is(1, () -> x.placePlanned(2, 1, 10, 10));
        Due.is(1, () -> x.placePlanned(2, 1, 0, 1000000));
        Due.is(0, () -> x.placePlanned(2, 1, 11, 15));
        Due.is(0, () -> x.placePlanned(2, 1, 5, 9));
        Due.is(0, () -> x.placePlanned(2, 0, 10, 10));
        Due.is(1, () -> x.placePlanned(3, 0, 10, 10));
        Due.is(0, () -> x.placePlanned(3, 0, 11, 15));
        Due.is(6, () -> x.placeCount(3));
        // What is there counts at hours from the present one on; what it plans for itself counts once.
        DigHouse y = Houses.objects(2);
        y.place(-1, 199);
        y.carry(0, 0, 0, 0);
        Due.is(0, () -> y.placePlanned(0, 0, 0, 1000000));
        Due.is(1, () -> y.placePlanned(1, 0, 0, 0));
        Due.is(1, () -> y.placePlanned(1, 0, 1000000, 1000000));
        y.lose(0);
        Due.is(1, () -> y.placePlanned(1, 0, 500, 500));
        DigHouse z = Houses.objects(2);
        z.place(-1, 199);
        z.carry(0, 0, 0, 0);
        z.lose(0);
        Due.is(0, () -> z.placePlanned(1, 0, 0, 1000000));
    }

    private static void used() {
        DigHouse x = Houses.objects(3);
        x.place(-1, 1000);
        x.place(0, 1000);
        x.place(-1, 1000);
        x.placePlanned(0, 1, 5, 6);
        x.placePlanned(0, 0, 6, 7);
        x.placePlanned(0, 2, 6, 7);
        x.carry(1, 1, 0, 0);
        x.placePlanned(1, 1, 6, 6);
        int[][] due = {{MIN, 0, 0, 0}, {-1, 0, 0, 0}, {0, 100, 100, 0}, {4, 100, 100, 0}, {5, 200, 200, 0}, {6, 200, 200, 100}, {7, 200, 100, 100},
            {8, 100, 100, 0}, {MAX, 100, 100, 0}};
        for (int[] row : due) {
            for (int p = 0; p < 3; p++) {
                int place = p;
                Due.is(row[1 + p], () -> x.placeUsed(place, row[0]));
            }
        }
    }

    private static void quietTimes() {
        DigHouse x = quiets(19);
        x.placeQuiet(23, 0, 0);
        Due.state(() -> x.placeQuiet(23, 0, 0));
        Due.argument(() -> x.placeQuiet(23, 1, 0));
        Due.argument(() -> x.placeQuiet(23, MIN, MIN));
        Due.element(() -> x.placeQuiet(24, -1, -2));
        Due.is(1, () -> x.carry(0, 23, 0, 0));
        Due.is(1, () -> x.carry(0, 0, 0, 0));
        Due.is(0, () -> x.carry(0, 1, 0, 0));
        x.hour(0, 0);
        Due.is(1, () -> x.carry(0, 22, 0, 0));
        Due.is(1, () -> x.carry(1, 1, 0, 0));
        Due.is(0, () -> x.carry(1, 23, 0, 0));
        // What quiet times bar stays where it is, but may be lost.
        Due.yes(() -> x.lose(0));
        DigHouse y = Houses.museum();
        y.placeQuiet(0, MAX, MAX);
        y.placeQuiet(0, 900001, MAX);
        Due.is(0, () -> y.carry(0, 0, 0, 0));
    }
}
