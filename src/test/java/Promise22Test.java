/** ticketWhose, ticketRead, ticketJoin, ticketTwice, ticketLeaves, ticketInside, ticketCount. */
public final class Promise22Test {
    public static void main(String[] args) {
        whose();
        reading();
        joining();
        leaving();
        counts();
        Due.end();
    }

    private static DigHouse house() {
        DigHouse x = new DigHouse();
        x.ticketSlot(9);
        x.ticketSlot(9);
        x.ticketSell(0, 2, 0);
        x.ticketSell(1, 3, 0);
        x.ticketSell(0, 4, 0);
        return x;
    }

    private static void whose() {
        DigHouse x = house();
        Due.is(0, () -> x.ticketWhose(123453));
        Due.is(-1, () -> x.ticketWhose(123459));
        Due.is(-1, () -> x.ticketWhose(0));
        Due.is(-1, () -> x.ticketWhose(-123453));
        Due.is(-1, () -> x.ticketWhose(1000000 + 123453));
        Due.is(-1, () -> x.ticketWhose(12345));
        x.ticketBack(0);
        Due.is(0, () -> x.ticketWhose(123453));
        int code = 0;
        for (int i = 0; i < 6; i++) {
            code = code * 10 + x.ticketCode(1, i);
        }
        int second = code;
        Due.is(1, () -> x.ticketWhose(second));
        Due.is(-1, () -> new DigHouse().ticketWhose(123453));
    }

    private static void reading() {
        DigHouse x = house();
        Due.index(() -> x.ticketRead(6, 0, -1));
        Due.index(() -> x.ticketRead(-1, 0, 0));
        Due.index(() -> x.ticketRead(0, 3, -1));
        Due.argument(() -> x.ticketRead(0, 0, -1));
        Due.argument(() -> x.ticketRead(0, 0, 100001));
        Due.is(3, () -> x.ticketRead(0, 1, 3599));
        Due.is(4, () -> x.ticketRead(0, 1, 4501));
        Due.is(1, () -> x.ticketRead(0, 1, 4500));
        Due.is(0, () -> x.ticketRead(0, 1, 3600));
        Due.is(0, () -> x.ticketRead(0, 1, 99999));
        Due.is(1, () -> x.ticketRead(5, 1, 3600));
        Due.is(-1, () -> x.ticketBack(1));
        Due.is(0, () -> x.ticketBack(0));
        Due.is(2, () -> x.ticketRead(0, 0, 5000));
        Due.is(4, () -> x.ticketRead(0, 2, 901));
        Due.is(1, () -> x.ticketRead(0, 2, 900));
    }

    private static void joining() {
        DigHouse x = house();
        Due.is(0, () -> x.ticketJoin());
        Due.index(() -> x.ticketTwice(0, 0));
        x.ticketRead(3, 2, 10);
        x.ticketRead(1, 2, 10);
        x.ticketRead(5, 2, 4);
        x.ticketRead(2, 1, 3600);
        x.ticketRead(0, 1, 3601);
        Due.index(() -> x.ticketTwice(0, 0));
        Due.is(0, () -> x.ticketInside(5000));
        Due.is(3, () -> x.ticketJoin());
        int[][] due = {{1, 0, 3601}, {2, 1, 10}, {2, 3, 10}};
        for (int k = 0; k < 3; k++) {
            for (int what = 0; what < 3; what++) {
                int at = k;
                int w = what;
                Due.is(due[k][what], () -> x.ticketTwice(at, w));
            }
        }
        Due.index(() -> x.ticketTwice(3, 0));
        Due.index(() -> x.ticketTwice(-1, 0));
        Due.index(() -> x.ticketTwice(0, 3));
        Due.index(() -> x.ticketTwice(0, -1));
        x.ticketRead(4, 2, 0);
        Due.is(10, () -> x.ticketTwice(1, 2));
        Due.is(4, () -> x.ticketJoin());
        Due.is(5, () -> x.ticketTwice(1, 1));
        x.ticketRead(2, 0, 0);
        x.ticketRead(1, 0, 0);
        Due.is(5, () -> x.ticketJoin());
        Due.is(2, () -> x.ticketTwice(0, 1));
        Due.is(0, () -> x.ticketTwice(0, 2));
    }

    private static void leaving() {
        DigHouse x = house();
        Due.index(() -> x.ticketLeaves(3, -1));
        Due.argument(() -> x.ticketLeaves(0, -1));
        Due.argument(() -> x.ticketLeaves(0, 100001));
        Due.argument(() -> x.ticketInside(-1));
        Due.argument(() -> x.ticketInside(100001));
        x.ticketRead(0, 0, 100);
        x.ticketRead(0, 2, 200);
        Due.no(() -> x.ticketLeaves(0, 500));
        Due.is(0, () -> x.ticketInside(500));
        x.ticketJoin();
        Due.is(0, () -> x.ticketInside(99));
        Due.is(2, () -> x.ticketInside(100));
        Due.is(6, () -> x.ticketInside(100000));
        Due.no(() -> x.ticketLeaves(0, 99));
        Due.yes(() -> x.ticketLeaves(0, 500));
        Due.no(() -> x.ticketLeaves(0, 600));
        Due.no(() -> x.ticketLeaves(0, 400));
        Due.is(6, () -> x.ticketInside(499));
        Due.is(4, () -> x.ticketInside(500));
        Due.yes(() -> x.ticketLeaves(2, 200));
        Due.is(2, () -> x.ticketInside(200));
    }

    private static void counts() {
        DigHouse x = house();
        x.ticketWaits(0, 9, 0);
        x.ticketWaits(1, 9, 0);
        x.ticketUnit(103);
        x.ticketBack(1);
        int[] due = {2, 3 + 1, 1, 0, 1};
        for (int what = 0; what < 5; what++) {
            int w = what;
            Due.is(due[what], () -> x.ticketCount(w));
        }
        Due.index(() -> x.ticketCount(5));
        Due.index(() -> x.ticketCount(-1));
    }
}
