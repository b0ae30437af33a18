import java.util.function.Supplier;

/** The edges of promise 22: ticketWhose up to ticketCount. */
public final class Edges22Test {
    private static final int MIN = Integer.MIN_VALUE;
    private static final int MAX = Integer.MAX_VALUE;

    public static void main(String[] args) {
        bounds();
        whose();
        read();
        readersKnowNothing();
        doubles();
        leaving();
        inside();
        laterJoins();
        counts();
        Due.end();
    }

    private static DigHouse tickets() {
        DigHouse x = new DigHouse();
        for (int s = 0; s < 8; s++) {
            x.ticketSlot(20);
        }
        for (int t = 0; t < 60; t++) {
            x.ticketSell(t % 8, 1, 0);
        }
        return x;
    }

    private static void bounds() {
        Supplier<DigHouse> house = Edges22Test::tickets;
        Bounds.of(house, "ticketWhose", 123456).hold();
        Bounds.of(house, "ticketRead", 3, 8, 500).index(0, 0, 5).index(1, 0, 59).argument(2, 0, 100000).hold();
        Bounds.of(house, "ticketJoin").hold();
        Bounds.of(() -> {
            DigHouse x = tickets();
            for (int reader = 0; reader < 6; reader++) {
                x.ticketRead(reader, 59, 3 * 3600);
                x.ticketRead(reader, 0, 0);
            }
            x.ticketJoin();
            return x;
        }, "ticketTwice", 3, 1).index(0, 0, 9).index(1, 0, 2).hold();
        Bounds.of(house, "ticketLeaves", 8, 500).index(0, 0, 59).argument(1, 0, 100000).hold();
        Bounds.of(house, "ticketInside", 500).argument(0, 0, 100000).hold();
        Bounds.of(house, "ticketCount", 3).index(0, 0, 4).hold();
        DigHouse none = new DigHouse();
        Due.is(-1, () -> none.ticketWhose(123450));
        Due.index(() -> none.ticketRead(0, 0, -1));
        Due.is(0, () -> none.ticketJoin());
        Due.index(() -> none.ticketTwice(0, 0));
        Due.index(() -> none.ticketLeaves(0, -1));
        Due.is(0, () -> none.ticketInside(100000));
    }

    /** Codes at the ends of int are none; that of a ticket that was given back is its still. */
    private static void whose() {
        DigHouse x = tickets();
        for (int code : new int[] {MIN, -1, 0, 99999, 1000000, MAX}) {
            Due.is(-1, () -> x.ticketWhose(code));
        }
        // 12345 with 3 + 14 + 3 + 12 + 35 = 67, so that the check is 3.
        Due.is(0, () -> x.ticketWhose(123453));
        Due.is(-1, () -> x.ticketWhose(123454));
        Due.is(-1, () -> x.ticketWhose(23453));
        Due.is(-1, () -> x.ticketWhose(1123453));
        x.ticketBack(0);
        Due.is(0, () -> x.ticketWhose(123453));
    }

    /** The reasons in their order; from the second when the slot begins up to 900 behind it. */
    private static void read() {
        int[][] due = {{0, 0, 1}, {0, 900, 1}, {0, 901, 4}, {0, 100000, 4}, {1, 3599, 3}, {1, 3600, 1}, {1, 4500, 1}, {1, 4501, 4},
            {7, 25199, 3}, {7, 25200, 1}, {7, 26100, 1}, {7, 26101, 4}, {7, 0, 3}};
        for (int[] row : due) {
            DigHouse x = tickets();
            Due.is(row[2], () -> x.ticketRead(5, row[0], row[1]));
            Due.is(row[2] == 1 ? 0 : row[2], () -> x.ticketRead(5, row[0], row[1]));
        }
        DigHouse x = tickets();
        Due.is(1, () -> x.ticketRead(0, 0, 0));
        // It did so before: at whatever second.
        Due.is(0, () -> x.ticketRead(0, 0, 100000));
        Due.is(0, () -> x.ticketRead(0, 0, 0));
        Due.is(4, () -> x.ticketRead(1, 0, 100000));
        x.ticketBack(1);
        Due.is(2, () -> x.ticketRead(0, 1, 0));
        Due.is(2, () -> x.ticketRead(0, 1, 100000));
        Due.is(2, () -> x.ticketRead(0, 1, 3600));
        Due.argument(() -> x.ticketRead(0, 1, 100001));
        Due.index(() -> x.ticketRead(6, 1, 100001));
        Due.index(() -> x.ticketRead(0, 60, -1));
    }

    /** Each reader lets a ticket in once; what is inside is known when they are joined. */
    private static void readersKnowNothing() {
        DigHouse x = tickets();
        for (int reader = 0; reader < 6; reader++) {
            int r = reader;
            Due.is(1, () -> x.ticketRead(r, 0, 900));
            Due.is(0, () -> x.ticketRead(r, 0, 900));
        }
        Due.is(0, () -> x.ticketInside(900));
        Due.index(() -> x.ticketTwice(0, 0));
        Due.no(() -> x.ticketLeaves(0, 900));
        Due.is(5, () -> x.ticketJoin());
        Due.is(1, () -> x.ticketInside(900));
        Due.is(0, () -> x.ticketInside(899));
        Due.is(5, () -> x.ticketJoin());
    }

    private static void twice(DigHouse x, int... due) {
        Due.is(due.length / 3, () -> x.ticketJoin());
        for (int k = 0; k < due.length; k++) {
            int at = k;
            Due.is(due[at], () -> x.ticketTwice(at / 3, at % 3));
        }
        Due.index(() -> x.ticketTwice(due.length / 3, 0));
        Due.index(() -> x.ticketTwice(-1, 0));
        Due.index(() -> x.ticketTwice(MAX, 0));
        Due.index(() -> x.ticketTwice(0, 3));
        Due.index(() -> x.ticketTwice(0, -1));
    }

    /** The lowest second counts, of equal ones the lowest reader; doubles by tickets, seconds, readers. */
    private static void doubles() {
        DigHouse x = tickets();
        twice(x);
        x.ticketRead(5, 59, 10800);
        x.ticketRead(0, 59, 10801);
        x.ticketRead(3, 59, 10800);
        x.ticketRead(1, 59, 10801);
        x.ticketRead(0, 8, 500);
        twice(x, 59, 5, 10800, 59, 0, 10801, 59, 1, 10801);
        x.ticketRead(5, 8, 500);
        x.ticketRead(4, 8, 499);
        x.ticketRead(2, 0, 0);
        // Known as they were joined, till they are joined again.
        Due.index(() -> x.ticketTwice(3, 0));
        Due.is(59, () -> x.ticketTwice(0, 0));
        twice(x, 8, 0, 500, 8, 5, 500, 59, 5, 10800, 59, 0, 10801, 59, 1, 10801);
        Due.is(1, () -> x.ticketInside(499) - x.ticketInside(498));
    }

    /** Let in by then, and not gone out before, at whatever second that was. */
    private static void leaving() {
        DigHouse x = tickets();
        x.ticketRead(0, 0, 500);
        Due.no(() -> x.ticketLeaves(0, 100000));
        x.ticketJoin();
        Due.no(() -> x.ticketLeaves(0, 0));
        Due.no(() -> x.ticketLeaves(0, 499));
        Due.is(1, () -> x.ticketInside(100000));
        Due.yes(() -> x.ticketLeaves(0, 500));
        Due.no(() -> x.ticketLeaves(0, 500));
        Due.no(() -> x.ticketLeaves(0, 100000));
        Due.is(0, () -> x.ticketInside(500));
        Due.is(0, () -> x.ticketInside(100000));
        DigHouse y = tickets();
        y.ticketRead(0, 0, 0);
        y.ticketJoin();
        Due.yes(() -> y.ticketLeaves(0, 100000));
        Due.no(() -> y.ticketLeaves(0, 0));
        Due.is(1, () -> y.ticketInside(99999));
        Due.is(0, () -> y.ticketInside(100000));
        Due.no(() -> y.ticketLeaves(59, 100000));
    }

    /** Inside from the second when a ticket was let in, up to the one ahead of that when its guests went out. */
    private static void inside() {
        DigHouse x = new DigHouse();
        x.ticketSlot(20);
        x.ticketSell(0, 9, 0);
        x.ticketSell(0, 8, 0);
        x.ticketSell(0, 3, 0);
        x.ticketRead(0, 0, 100);
        x.ticketRead(1, 1, 900);
        x.ticketJoin();
        x.ticketLeaves(0, 950);
        int[][] due = {{0, 0}, {99, 0}, {100, 9}, {899, 9}, {900, 17}, {949, 17}, {950, 8}, {100000, 8}};
        for (int[] row : due) {
            Due.is(row[1], () -> x.ticketInside(row[0]));
        }
        Due.argument(() -> x.ticketInside(100001));
        Due.argument(() -> x.ticketInside(-1));
    }

    /** An earlier second that is known later counts from then on. */
    private static void laterJoins() {
        DigHouse x = tickets();
        x.ticketRead(0, 0, 500);
        x.ticketJoin();
        x.ticketRead(1, 0, 400);
        Due.is(0, () -> x.ticketInside(499));
        Due.no(() -> x.ticketLeaves(0, 499));
        Due.is(1, () -> x.ticketJoin());
        Due.is(1, () -> x.ticketInside(400));
        Due.is(0, () -> x.ticketInside(399));
        Due.yes(() -> x.ticketLeaves(0, 400));
        Due.is(0, () -> x.ticketInside(400));
    }

    private static void counts() {
        DigHouse x = tickets();
        x.ticketWaits(0, 1, 0);
        x.ticketWaits(0, 1, 0);
        Houses.prices(x, "0=1,1=1,2=2");
        x.ticketUnit(33);
        x.ticketUnit(33);
        x.ticketUnit(33);
        x.ticketUnit(33);
        int[] due = {8, 60, 2, 3, 4};
        for (int what = 0; what < 5; what++) {
            int w = what;
            Due.is(due[w], () -> x.ticketCount(w));
        }
    }
}
