import java.util.function.Supplier;

/** The edges of promise 10: ownerRow up to ownerSettle. */
public final class Edges10Test {
    private static final int MIN = Integer.MIN_VALUE;
    private static final int MAX = Integer.MAX_VALUE;

    public static void main(String[] args) {
        bounds();
        full();
        known();
        corrected();
        voidRows();
        gaps();
        held();
        tooGreat();
        dangers();
        claims();
        Due.end();
    }

    private static DigHouse rows(int count) {
        DigHouse x = Houses.objects(10);
        for (int r = 0; r < count; r++) {
            int row = r;
            Due.is(row, () -> x.ownerRow(row % 10, row % 32, 10, 20, 5));
        }
        return x;
    }

    private static DigHouse corrected(int count) {
        DigHouse x = rows(7);
        for (int c = 0; c < count; c++) {
            x.ownerCorrect(0, c % 3, 15, 5 + c);
        }
        return x;
    }

    private static DigHouse dangers(int count) {
        DigHouse x = rows(3);
        for (int d = 0; d < count; d++) {
            int rule = d;
            Due.is(rule, () -> x.ownerDanger(rule - 1, rule, 100000));
        }
        return x;
    }

    private static DigHouse claims(int count) {
        DigHouse x = rows(1);
        for (int c = 0; c < count; c++) {
            int claim = c;
            Due.is(claim, () -> x.ownerClaim(claim % 10, claim, 7));
        }
        return x;
    }

    private static void bounds() {
        Supplier<DigHouse> house = () -> rows(7);
        Bounds.of(house, "ownerRow", 3, 4, 50, 60, 70).element(0, 0, 9).element(1, 0, 31).argument(2, 0, 60).argument(3, 50, 100000)
            .argument(4, 0, 100000).hold().full(() -> rows(120));
        Bounds.of(house, "ownerRow", 3, 4, 100000, 100000, 0).element(0, 0, 9).element(1, 0, 31).argument(2, 0, 100000)
            .argument(3, 100000, 100000).argument(4, 0, 100000).hold();
        Bounds.of(house, "ownerShare", 3, 5, 9).element(0, 0, 6).argument(1, 1, 9).argument(2, 5, 1000).hold();
        Bounds.of(house, "ownerShare", 3, 1, 1000).element(0, 0, 6).argument(1, 1, 1000).argument(2, 1, 1000).hold();
        Bounds.of(house, "ownerDoubt", 3, true).element(0, 0, 6).hold();
        Bounds.of(house, "ownerCorrect", 3, 0, 7, 9).element(0, 0, 6).fixed(1).element(2, 0, 31).argument(3, 5, 100000).hold().full(() -> corrected(200));
        for (int field = 1; field <= 2; field++) {
            Bounds.of(house, "ownerCorrect", 3, field, 7, 9).element(0, 0, 6).element(1, 0, 2).argument(2, 0, 100000)
                .argument(3, 5, 100000).hold().full(() -> corrected(200));
        }
        Bounds.of(house, "ownerKnown", 3, 2, 9).element(0, 0, 6).element(1, 0, 2).argument(2, 0, 100000).hold();
        Bounds.of(house, "ownerGap", 3, 0, 1, 9).element(0, 0, 9).element(1, 0, MAX).element(2, 0, 1).argument(3, 0, 100000).hold();
        Bounds.of(house, "ownerHeld", 3, 7, 9, 1).element(0, 0, 9).argument(1, 0, 100000).argument(2, 0, 100000).element(3, 0, 1).hold();
        Bounds.of(house, "ownerDanger", 3, 50, 60).element(0, -1, 31).argument(1, 0, 60).argument(2, 50, 100000).hold().full(() -> dangers(10));
        Bounds.of(house, "ownerAsked", 3, 1, 9).element(0, 0, 9).element(1, 0, MAX).argument(2, 0, 100000).hold();
        Bounds.of(house, "ownerClaim", 3, 4, 9).element(0, 0, 9).element(1, 0, 31).argument(2, 0, 100000).hold().full(() -> claims(30));
        Bounds.of(() -> claims(30), "ownerSettle", 3, 9).element(0, 0, 29).argument(1, 7, 100000).hold();
        DigHouse none = new DigHouse();
        Due.element(() -> none.ownerRow(0, 0, 0, 0, 0));
        Due.element(() -> none.ownerShare(0, 0, 0));
        Due.element(() -> none.ownerClaim(0, 0, -1));
        Due.element(() -> none.ownerSettle(0, -1));
        Due.element(() -> none.ownerGap(0, 0, 0, -1));
    }

    /** What is full stays full, but other calls of the part are answered. */
    private static void full() {
        DigHouse x = rows(120);
        Due.state(() -> x.ownerRow(0, 0, 0, 0, 0));
        Due.argument(() -> x.ownerRow(0, 0, 1, 0, 0));
        Due.element(() -> x.ownerRow(10, 0, 1, 0, 0));
        Due.is(10, () -> x.ownerKnown(119, 1, 5));
        x.ownerCorrect(119, 1, 20, 5);
        Due.is(20, () -> x.ownerKnown(119, 1, 5));
        Due.element(() -> x.ownerKnown(120, 1, 5));
        Due.is(119, () -> x.ownerSeen(9, 0, 11, 5));
        Due.is(-1, () -> x.ownerSeen(9, 0, 12, 5));
        DigHouse y = corrected(200);
        Due.is(15, () -> y.ownerKnown(0, 0, 100000));
        Due.state(() -> y.ownerCorrect(0, 0, 1, 5));
        Due.argument(() -> y.ownerCorrect(0, 0, 1, 4));
        Due.element(() -> y.ownerCorrect(0, 0, 32, 4));
        Due.element(() -> y.ownerCorrect(0, 3, -1, 4));
        Due.is(7, () -> y.ownerRow(0, 0, 0, 0, 0));
    }

    /** A row is known from the day on when it was told. */
    private static void known() {
        DigHouse x = Houses.objects(2);
        x.ownerRow(1, 31, 0, 100000, 100000);
        x.ownerRow(1, 0, 100000, 100000, 0);
        int[][] due = {{0, 99999, -1, -1, -1}, {0, 100000, 31, 0, 100000}, {1, 0, 0, 100000, 100000}, {1, 100000, 0, 100000, 100000}};
        for (int[] row : due) {
            for (int field = 0; field < 3; field++) {
                int f = field;
                Due.is(row[2 + f], () -> x.ownerKnown(row[0], f, row[1]));
            }
        }
    }

    /** The correction with the greatest day counts, of equal ones the later one; each field by itself. */
    private static void corrected() {
        DigHouse x = Houses.objects(1);
        x.ownerRow(0, 3, 10, 20, 5);
        x.ownerCorrect(0, 0, 31, 5);
        Due.is(31, () -> x.ownerKnown(0, 0, 5));
        Due.is(-1, () -> x.ownerKnown(0, 0, 4));
        x.ownerCorrect(0, 2, 99, 8);
        x.ownerCorrect(0, 2, 30, 7);
        x.ownerCorrect(0, 2, 40, 7);
        int[][] due = {{5, 20}, {6, 20}, {7, 40}, {8, 99}, {100000, 99}};
        for (int[] row : due) {
            Due.is(row[1], () -> x.ownerKnown(0, 2, row[0]));
            Due.is(31, () -> x.ownerKnown(0, 0, row[0]));
            Due.is(10, () -> x.ownerKnown(0, 1, row[0]));
        }
        x.ownerCorrect(0, 2, 50, 8);
        Due.is(50, () -> x.ownerKnown(0, 2, 8));
        x.ownerCorrect(0, 2, 0, 100000);
        Due.is(50, () -> x.ownerKnown(0, 2, 99999));
        Due.is(0, () -> x.ownerKnown(0, 2, 100000));
    }

    /** From above to: void as known, and counted nowhere; from and to on the same day: not void. */
    private static void voidRows() {
        DigHouse x = Houses.objects(1);
        x.ownerRow(0, 3, 10, 20, 0);
        x.ownerRow(0, 4, 30, 30, 0);
        x.ownerDanger(-1, 0, 100000);
        x.ownerCorrect(0, 1, 20, 1);
        x.ownerCorrect(0, 1, 21, 2);
        x.ownerCorrect(0, 2, 21, 3);
        int[] rows = {2, 2, 1, 2};
        for (int day = 0; day < 4; day++) {
            int d = day;
            Due.is(rows[d] == 2 ? 0 : 1, () -> x.ownerAsked(0, 0, d));
            Due.is(rows[d] == 2 ? 1 : -1, () -> x.ownerAsked(0, 1, d));
            Due.is(rows[d] == 2 ? 0 : 1, () -> x.ownerSeen(0, 0, 0, d));
            Due.is(rows[d] == 2 ? 1 : -1, () -> x.ownerSeen(0, 0, 1, d));
            Due.is(rows[d] == 2 ? 21 + (d == 3 ? 1 : 0) : -1, () -> x.ownerGap(0, 0, 0, d));
            Due.is(d == 0 || d == 1 || d == 3 ? 1 : 0, () -> x.ownerHeld(0, d == 3 ? 21 : 20, d, 0));
            Due.is(8 * (rows[d]) + 2 * (rows[d] - 1), () -> x.ownerChain(0, d, -1) + (rows[d] == 2 ? 2 : 0));
        }
        Due.is(21, () -> x.ownerKnown(0, 1, 2));
        Due.is(20, () -> x.ownerKnown(0, 2, 2));
    }

    private static void gapsAre(DigHouse x, int day, int... due) {
        for (int k = 0; 2 * k < due.length; k++) {
            int at = k;
            Due.is(due[2 * k], () -> x.ownerGap(0, at, 0, day));
            Due.is(due[2 * k + 1], () -> x.ownerGap(0, at, 1, day));
        }
        Due.is(-1, () -> x.ownerGap(0, due.length / 2, 0, day));
        Due.is(-1, () -> x.ownerGap(0, due.length / 2, 1, day));
        Due.is(-1, () -> x.ownerGap(0, MAX, 0, day));
    }

    /** Gaps of one day and more, none between days that follow one another; none ahead of the least or behind the greatest. */
    private static void gaps() {
        DigHouse x = Houses.objects(2);
        gapsAre(x, 0);
        x.ownerRow(0, 0, 10, 20, 0);
        gapsAre(x, 0);
        x.ownerRow(0, 0, 21, 30, 1);
        gapsAre(x, 1);
        x.ownerRow(0, 0, 32, 32, 2);
        gapsAre(x, 1);
        gapsAre(x, 2, 31, 31);
        x.ownerRow(0, 0, 100000, 100000, 3);
        gapsAre(x, 3, 31, 31, 33, 99999);
        x.ownerRow(0, 0, 0, 0, 4);
        gapsAre(x, 4, 1, 9, 31, 31, 33, 99999);
        x.ownerRow(0, 0, 5, 99, 5);
        gapsAre(x, 5, 1, 4, 100, 99999);
        x.ownerRow(1, 0, 1, 4, 5);
        gapsAre(x, 5, 1, 4, 100, 99999);
        x.ownerRow(0, 0, 0, 100000, 6);
        gapsAre(x, 6);
        gapsAre(x, 5, 1, 4, 100, 99999);
        gapsAre(x, 0);
    }

    private static void share(DigHouse x, int on, int day, long above, long below) {
        Due.is(above, () -> x.ownerHeld(0, on, day, 0));
        Due.is(below, () -> x.ownerHeld(0, on, day, 1));
    }

    /** Shares of the rows in which the day lies, with both ends, lessened. */
    private static void held() {
        DigHouse x = Houses.objects(2);
        share(x, 0, 0, 0, 1);
        x.ownerRow(0, 0, 10, 20, 5);
        share(x, 10, 4, 0, 1);
        share(x, 9, 5, 0, 1);
        share(x, 10, 5, 1, 1);
        share(x, 20, 5, 1, 1);
        share(x, 21, 5, 0, 1);
        x.ownerShare(0, 1, 1000);
        share(x, 20, 5, 1, 1000);
        x.ownerRow(0, 0, 20, 30, 6);
        x.ownerShare(1, 999, 1000);
        share(x, 20, 5, 1, 1000);
        share(x, 20, 6, 1, 1);
        share(x, 21, 6, 999, 1000);
        x.ownerRow(0, 0, 20, 20, 7);
        x.ownerShare(2, 2, 4);
        share(x, 20, 7, 3, 2);
        x.ownerShare(2, 1000, 1000);
        share(x, 20, 7, 2, 1);
        // A refused share leaves the former one as it is.
        Due.argument(() -> x.ownerShare(0, 3, 2));
        Due.argument(() -> x.ownerShare(0, 0, 2));
        Due.argument(() -> x.ownerShare(0, 500, 1001));
        Due.argument(() -> x.ownerShare(0, -1, -1));
        share(x, 15, 7, 1, 1000);
        share(x, 0, 100000, 0, 1);
        share(x, 100000, 100000, 0, 1);
        x.ownerRow(1, 0, 20, 20, 0);
        share(x, 20, 7, 2, 1);
    }

    /** Up to 1000000000 above and below, row by row; what would be more is refused, even if it would be less in the end. */
    private static void tooGreat() {
        DigHouse just = shared(new int[][] {{562, 999}, {247, 997}, {201, 991}});
        share(just, 0, 0, 1000000000, 987038973);
        DigHouse above = shared(new int[][] {{125, 999}, {330, 997}, {552, 991}});
        Due.state(() -> above.ownerHeld(0, 0, 0, 0));
        Due.state(() -> above.ownerHeld(0, 0, 0, 1));
        share(above, 1, 0, 0, 1);
        Due.element(() -> above.ownerHeld(1, -1, -1, 2));
        Due.element(() -> above.ownerHeld(0, -1, -1, 2));
        Due.argument(() -> above.ownerHeld(0, 100001, 0, 0));
        Due.argument(() -> above.ownerHeld(0, 0, 100001, 0));
        int[][] most = {{1, 2}, {1, 9}, {1, 5}, {1, 11}, {1, 73}, {1, 101}, {1, 137}};
        long sum = 0;
        for (int[] one : most) {
            sum += 999999990 / one[1];
        }
        share(shared(most), 0, 0, sum, 999999990);
        DigHouse below = shared(new int[][] {{1, 13}, {1, 17}, {1, 59}, {1, 271}, {1, 283}});
        Due.state(() -> below.ownerHeld(0, 0, 0, 0));
        // What the first rows come to is refused, though with the last one below would be 1 again.
        DigHouse lessened = shared(new int[][] {{1, 999}, {1, 997}, {1, 991}, {1, 2}, {1, 2}});
        Due.state(() -> lessened.ownerHeld(0, 0, 0, 1));
        // As known ahead of its last row it is as it was.
        DigHouse later = shared(new int[][] {{1, 999}, {1, 997}, {1, 991}});
        later.ownerRow(0, 0, 0, 0, 1);
        later.ownerShare(3, 1, 2);
        share(later, 0, 0, 997L * 991 + 999L * 991 + 999L * 997, 987038973);
        Due.state(() -> later.ownerHeld(0, 0, 1, 0));
        share(later, 0, 0, 997L * 991 + 999L * 991 + 999L * 997, 987038973);
    }

    /** One thing with rows of these shares. */
    private static DigHouse shared(int[][] shares) {
        DigHouse x = Houses.objects(1);
        for (int[] share : shares) {
            int row = x.ownerRow(0, 0, 0, 0, 0);
            x.ownerShare(row, share[0], share[1]);
        }
        return x;
    }

    /** A day of the span suffices, at both ends; a rule of a person is for that one alone, as known. */
    private static void dangers() {
        int[][] due = {{20, 30, 0}, {0, 9, -1}, {0, 10, 0}, {10, 10, 0}, {15, 15, 0}, {20, 20, 0}, {21, 100000, -1}, {0, 100000, 0}};
        for (int[] row : due) {
            DigHouse x = Houses.objects(1);
            x.ownerRow(0, 3, 10, 20, 0);
            Due.is(-1, () -> x.ownerAsked(0, 0, 0));
            x.ownerDanger(4, row[0], row[1]);
            Due.is(-1, () -> x.ownerAsked(0, 0, 0));
            x.ownerDanger(3, row[0], row[1]);
            Due.is(row[2], () -> x.ownerAsked(0, 0, 0));
            DigHouse y = Houses.objects(1);
            y.ownerRow(0, 3, 10, 20, 0);
            y.ownerDanger(-1, row[0], row[1]);
            Due.is(row[2], () -> y.ownerAsked(0, 0, 0));
        }
        DigHouse x = dangers(9);
        Due.is(9, () -> x.ownerDanger(31, 0, 0));
        Due.state(() -> x.ownerDanger(31, 0, 0));
        DigHouse y = Houses.objects(1);
        y.ownerRow(0, 3, 10, 20, 0);
        y.ownerDanger(31, 0, 100000);
        y.ownerCorrect(0, 0, 31, 4);
        Due.is(-1, () -> y.ownerAsked(0, 0, 3));
        Due.is(0, () -> y.ownerAsked(0, 0, 4));
        Due.is(-1, () -> y.ownerAsked(0, 1, 4));
    }

    /** A claim stops from its day on, up to the day ahead of the one on which it is settled. */
    private static void claims() {
        DigHouse x = Houses.objects(2);
        x.ownerClaim(0, 0, 5);
        int[] days = {0, 4, 5, 6, 100000};
        boolean[] due = {false, false, true, true, true};
        for (int i = 0; i < 5; i++) {
            int day = days[i];
            Due.compare(String.valueOf(due[i]), String.valueOf(x.ownerStops(0, day)));
            Due.no(() -> x.ownerStops(1, day));
        }
        Due.argument(() -> x.ownerSettle(0, 4));
        Due.argument(() -> x.ownerSettle(0, 100001));
        Due.argument(() -> x.ownerSettle(0, MIN));
        x.ownerSettle(0, 100000);
        Due.yes(() -> x.ownerStops(0, 99999));
        Due.no(() -> x.ownerStops(0, 100000));
        Due.state(() -> x.ownerSettle(0, 100000));
        Due.argument(() -> x.ownerSettle(0, 4));
        Due.is(1, () -> x.ownerClaim(0, 31, 7));
        x.ownerSettle(1, 7);
        Due.yes(() -> x.ownerStops(0, 7));
        DigHouse y = Houses.objects(1);
        y.ownerClaim(0, 0, 7);
        y.ownerSettle(0, 7);
        Due.no(() -> y.ownerStops(0, 7));
        Due.no(() -> y.ownerStops(0, 6));
        Due.element(() -> y.ownerSettle(1, 7));
        Due.element(() -> y.ownerSettle(-1, 7));
    }
}
