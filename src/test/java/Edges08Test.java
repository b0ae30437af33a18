import java.util.function.Supplier;

/** The edges of promise 8: curveTotal, curveSum, curveMix, curveJoinRepeats, curveLeast, curveSpan, curveGap, curveSlid, curveWiggle, curveClear, curveUnit. */
public final class Edges08Test {
    private static final int MIN = Integer.MIN_VALUE;
    private static final int MAX = Integer.MAX_VALUE;

    public static void main(String[] args) {
        bounds();
        greatSums();
        mixtures();
        repeats();
        joined();
        leastSets();
        rowOfDates();
        signs();
        Due.end();
    }

    private static void bounds() {
        Supplier<DigHouse> house = () -> Houses.curve(0, 11);
        Supplier<DigHouse> all = () -> Houses.curve(0, 12);
        Bounds.of(house, "curveTotal", 3).index(0, 0, 10).hold();
        Bounds.of(house, "curveSum", 3, 4).index(0, 0, 10).index(1, 0, 10).hold();
        Bounds.of(all, "curveSum", 3, 4).index(0, 0, 11).index(1, 0, 11).full(all);
        Bounds.of(house, "curveMix", 3, 4, 5, 1000).index(0, 0, 10).index(1, 0, 10).argument(2, 0, 1000).argument(3, 5, 1000).hold();
        Bounds.of(house, "curveMix", 3, 4, 0, 7).index(0, 0, 10).index(1, 0, 10).argument(2, 0, 7).argument(3, 1, 1000).hold();
        Bounds.of(all, "curveMix", 3, 4, 0, 7).index(0, 0, 11).index(1, 0, 11).argument(2, 0, 7).argument(3, 1, 1000).full(all);
        Bounds.of(house, "curveJoinRepeats", 3, 4).index(0, 0, 10).index(1, 0, 10).hold();
        Bounds.of(all, "curveJoinRepeats", 3, 4).index(0, 0, 11).index(1, 0, 11).full(all);
        Bounds.of(all, "curveLeast", 3, 1, 7).index(0, 0, 11).argument(1, 1, 7).argument(2, 1, 1000).hold();
        Bounds.of(all, "curveLeast", 3, 9, 1000).index(0, 0, 11).argument(1, 1, 1000).argument(2, 9, 1000).hold();
        Bounds.of(all, "curveGap", 3, 4).index(0, 0, 11).argument(1, 0, 59).hold().full(() -> {
            DigHouse x = Houses.curve(0, 12);
            for (int i = 1; i <= 8; i++) {
                int count = i;
                Due.is(count, () -> x.curveGap(0, 59));
            }
            return x;
        });
        Bounds.of(all, "curveSlid", 3).index(0, 0, 11).hold();
        Bounds.of(all, "curveWiggle").hold();
        Bounds.of(all, "curveClear").hold();
        Bounds.of(all, "curveCount", 3).index(0, 0, 6).hold();
        DigHouse x = Houses.curve(0, 1);
        Due.argument(() -> x.curveMix(0, 0, 8, 7));
        Due.argument(() -> x.curveMix(0, 0, 0, 0));
        Due.argument(() -> x.curveLeast(0, 8, 7));
        Due.argument(() -> x.curveLeast(0, 0, 0));
        Due.index(() -> x.curveMix(0, 1, 0, 0));
        Due.is(1, () -> x.curveMix(0, 0, 1, 1));
        DigHouse none = new DigHouse();
        Due.index(() -> none.curveTotal(0));
        Due.index(() -> none.curveLeast(0, 0, 0));
        Due.index(() -> none.curveSpan(0, 0));
        Due.is(-1, () -> none.curveWiggle());
        Due.is(0, () -> none.curveSlid(11));
        Due.is(0, () -> none.curveClear());
    }

    /** Dates of 999, 1998, .. , 511488 in the first year. */
    private static DigHouse doubled(int count) {
        DigHouse x = new DigHouse();
        x.curveRow(0, 500, 10);
        x.curveDate(500, 10);
        for (int d = 1; d < count; d++) {
            int date = d;
            Due.is(date, () -> x.curveSum(date - 1, date - 1));
        }
        return x;
    }

    /** A sum of 1000000 may be, one of 1000001 not. */
    private static void greatSums() {
        DigHouse just = doubled(10);
        Due.is(10, () -> just.curveMix(9, 0, 679, 711));
        Due.is(488512, () -> just.curveWeight(10, 0));
        Due.is(11, () -> just.curveSum(9, 10));
        Due.is(1000000, () -> just.curveWeight(11, 0));
        Due.is(1000000, () -> just.curveTotal(11));
        DigHouse above = doubled(10);
        Due.is(10, () -> above.curveMix(9, 0, 870, 911));
        Due.is(488513, () -> above.curveWeight(10, 0));
        Due.is(-1, () -> above.curveSum(9, 10));
        Due.is(-1, () -> above.curveSum(10, 9));
        Due.is(-1, () -> above.curveSum(9, 9));
        Due.is(11, () -> above.curveCount(3));
        Due.is(11, () -> above.curveSum(10, 10));
        // With twelve there the state is told, not what the sum would be.
        Due.state(() -> above.curveSum(9, 10));
        // The last year counts as the first one does.
        DigHouse last = new DigHouse();
        last.curveRow(11, 500, 10);
        last.curveDate(500, 10);
        for (int d = 1; d < 10; d++) {
            last.curveSum(d - 1, d - 1);
        }
        Due.is(-1, () -> last.curveSum(9, 9));
        Due.is(10, () -> last.curveSum(9, 8));
    }

    private static void mixtures() {
        DigHouse x = Houses.curve(0, 2);
        int[][] shares = {{0, 1}, {1, 1}, {0, 1000}, {1000, 1000}, {1, 1000}, {999, 1000}, {1, 2}, {3, 7}};
        for (int[] share : shares) {
            int date = x.curveMix(0, 1, share[0], share[1]);
            for (int y = 0; y < 12; y++) {
                int year = y;
                long sum = (long) share[0] * x.curveWeight(0, y) + (long) (share[1] - share[0]) * x.curveWeight(1, y);
                Due.is(sum / share[1], () -> x.curveWeight(date, year));
            }
        }
        // Great weights, too: 999 times 511488 and more does not fit an int.
        DigHouse y = doubled(10);
        Due.is(10, () -> y.curveMix(9, 8, 999, 1000));
        Due.is((999L * 511488 + 255744) / 1000, () -> y.curveWeight(10, 0));
    }

    /** Ages that differ by just twice the root of the sum of squares are repeats; one year more, and they are not. */
    private static void repeats() {
        int[][] due = {{3, 4, 10}, {1, 1, 2}, {100, 100, 282}, {6, 8, 20}, {1, 100, 200}};
        for (int[] row : due) {
            DigHouse x = new DigHouse();
            x.curveRow(0, 1000, 10);
            x.curveDate(1000, row[0]);
            x.curveDate(1000 + row[2], row[1]);
            x.curveDate(1000 + row[2] + 1, row[1]);
            x.curveDate(1000 - row[2], row[1]);
            x.curveDate(1000 - row[2] - 1, row[1]);
            Due.is(-1, () -> x.curveJoinRepeats(0, 2));
            Due.is(-1, () -> x.curveJoinRepeats(2, 0));
            Due.is(-1, () -> x.curveJoinRepeats(0, 4));
            Due.is(5, () -> x.curveJoinRepeats(0, 1));
            Due.is(6, () -> x.curveJoinRepeats(1, 0));
            Due.is(7, () -> x.curveJoinRepeats(0, 3));
            Due.is(8, () -> x.curveJoinRepeats(0, 0));
        }
        DigHouse x = Houses.curve(0, 2);
        x.curveSum(0, 1);
        x.curveMix(0, 1, 1, 2);
        Due.is(-1, () -> x.curveJoinRepeats(0, 2));
        Due.is(-1, () -> x.curveJoinRepeats(2, 0));
        Due.is(-1, () -> x.curveJoinRepeats(3, 3));
        Due.is(4, () -> x.curveJoinRepeats(0, 1));
        // What was joined is measured.
        Due.is(5, () -> x.curveJoinRepeats(4, 0));
        // Neither does one that is not measured join with one of age 0.
        DigHouse none = new DigHouse();
        none.curveDate(0, 1);
        none.curveSum(0, 0);
        none.curveMix(0, 0, 1, 1);
        for (int date = 1; date <= 2; date++) {
            int unmeasured = date;
            Due.is(-1, () -> none.curveJoinRepeats(0, unmeasured));
            Due.is(-1, () -> none.curveJoinRepeats(unmeasured, 0));
            Due.is(-1, () -> none.curveJoinRepeats(unmeasured, unmeasured));
        }
        DigHouse ends = new DigHouse();
        ends.curveDate(0, 100);
        ends.curveDate(3000, 100);
        Due.is(-1, () -> ends.curveJoinRepeats(0, 1));
        Due.is(-1, () -> ends.curveJoinRepeats(1, 0));
    }

    /** The joined age and spread, rounded down, the spread at least 1; by the edition in use, with the reservoir now. */
    private static void joined() {
        int[] spreads = {1, 2, 3, 4, 7, 15, 20, 34, 50, 69, 99, 100};
        for (int one : spreads) {
            for (int other : spreads) {
                long p = one * one;
                long q = other * other;
                int apart = one == 1 && other == 1 ? 2 : Math.min(one, other);
                int age = (int) ((800 * q + (800 + apart) * p) / (p + q));
                int square = (int) (p * q / (p + q));
                int spread = 0;
                while ((spread + 1) * (spread + 1) <= square) {
                    spread++;
                }
                int s = Math.max(1, spread);
                DigHouse x = new DigHouse();
                x.curveDate(800, one);
                x.curveDate(800 + apart, other);
                x.curveRow(2, age, 1);
                x.curveRow(3, age + 1, 1);
                x.curveRow(4, age + 2, 9);
                x.curveRow(5, age - 40, 1);
                Due.is(2, () -> x.curveJoinRepeats(0, 1));
                Due.is(Edges07Test.bell(age, s, 0, 0, age, 1), () -> x.curveWeight(2, 2));
                Due.is(Edges07Test.bell(age, s, 0, 0, age + 1, 1), () -> x.curveWeight(2, 3));
                Due.is(Edges07Test.bell(age, s, 0, 0, age + 2, 9), () -> x.curveWeight(2, 4));
                x.curveReservoir(-41, 3);
                Due.is(3, () -> x.curveJoinRepeats(0, 1));
                Due.is(Edges07Test.bell(age, s, -41, 3, age - 40, 1), () -> x.curveWeight(3, 5));
                Due.is(Edges07Test.bell(age, s, -41, 3, age + 1, 1), () -> x.curveWeight(3, 3));
            }
        }
    }

    /** A date with weights that are told by years. */
    private static DigHouse weighing(int... ages) {
        DigHouse x = new DigHouse();
        for (int y = 0; y < ages.length; y++) {
            if (ages[y] >= 0) {
                x.curveRow(y, ages[y], 10);
            }
        }
        x.curveDate(500, 10);
        return x;
    }

    private static void spans(DigHouse x, int... due) {
        for (int k = 0; 2 * k < due.length; k++) {
            int at = k;
            Due.is(due[2 * k], () -> x.curveSpan(at, 0));
            Due.is(due[2 * k + 1], () -> x.curveSpan(at, 1));
        }
        Due.index(() -> x.curveSpan(due.length / 2, 0));
        Due.index(() -> x.curveSpan(-1, 0));
        Due.index(() -> x.curveSpan(MAX, 1));
        Due.index(() -> x.curveSpan(0, 2));
        Due.index(() -> x.curveSpan(0, -1));
    }

    /** Greatest weights first, of equal ones the earlier years; as few as have the share, and none that weighs nothing. */
    private static void leastSets() {
        DigHouse x = weighing(500, -1, 500, 500, -1, -1, -1, -1, -1, -1, -1, 500);
        Due.is(4 * 999, () -> x.curveTotal(0));
        spans(x);
        Due.is(1, () -> x.curveLeast(0, 1, 1000));
        spans(x, 0, 0);
        Due.is(1, () -> x.curveLeast(0, 250, 1000));
        spans(x, 0, 0);
        Due.is(2, () -> x.curveLeast(0, 251, 1000));
        spans(x, 0, 0, 2, 2);
        // 250 of 999 of 3996 are just 1000: one more than a year weighs.
        Due.is(2, () -> x.curveLeast(0, 250, 999));
        spans(x, 0, 0, 2, 2);
        Due.is(2, () -> x.curveLeast(0, 1, 2));
        Due.is(2, () -> x.curveLeast(0, 3, 4));
        spans(x, 0, 0, 2, 3);
        Due.is(3, () -> x.curveLeast(0, 751, 1000));
        spans(x, 0, 0, 2, 3, 11, 11);
        Due.is(3, () -> x.curveLeast(0, 1000, 1000));
        spans(x, 0, 0, 2, 3, 11, 11);
        // A refused one changes nothing; one of no weights has no spans.
        Due.index(() -> x.curveLeast(1, 1, 1));
        Due.argument(() -> x.curveLeast(0, 2, 1));
        spans(x, 0, 0, 2, 3, 11, 11);
        x.curveDate(3000, 1);
        Due.is(0, () -> x.curveTotal(1));
        Due.is(0, () -> x.curveLeast(1, 1, 1));
        spans(x);
        DigHouse y = weighing(500, 505, 500, 505, 505, 500, 505, 500, 500, 505, 500, 500);
        int heavy = 999;
        int light = y.curveWeight(0, 1);
        Due.compare("true", String.valueOf(light > 0 && light < heavy));
        Due.is(1, () -> y.curveLeast(0, 1000, 1000));
        spans(y, 0, 11);
        // Seven heavy ones, then the light ones from the earliest on.
        int total = 7 * heavy + 5 * light;
        int share = (7 * heavy * 1000 + total - 1) / total;
        int more = 7 * heavy * 1000 / total;
        Due.is(5, () -> y.curveLeast(0, more, 1000));
        spans(y, 0, 0, 2, 2, 5, 5, 7, 8, 10, 11);
        Due.compare("true", String.valueOf(share == more + 1));
        Due.is(4, () -> y.curveLeast(0, share, 1000));
        spans(y, 0, 2, 5, 5, 7, 8, 10, 11);
    }

    /** A date's weight in the year that is later by its gap; nothing behind the last year. */
    private static void rowOfDates() {
        DigHouse x = weighing(500, 503, 506, 509, 512, 515, 518, 521, 524, 527, 530, 500);
        Due.is(1, () -> x.curveGap(0, 0));
        Due.is(999, () -> x.curveSlid(0));
        Due.is(999, () -> x.curveSlid(11));
        Due.is(0, () -> x.curveWiggle());
        Due.is(1, () -> x.curveClear());
        Due.is(-1, () -> x.curveWiggle());
        Due.is(1, () -> x.curveGap(0, 11));
        Due.is(999, () -> x.curveSlid(0));
        Due.is(0, () -> x.curveSlid(1));
        Due.is(0, () -> x.curveWiggle());
        Due.is(2, () -> x.curveGap(0, 12));
        Due.is(3, () -> x.curveGap(0, 59));
        Due.is(999, () -> x.curveSlid(0));
        Due.is(0, () -> x.curveSlid(11));
        Due.is(4, () -> x.curveGap(0, 1));
        Due.is(999 + x.curveWeight(0, 1), () -> x.curveSlid(0));
        Due.is(999, () -> x.curveSlid(10));
        Due.is(0, () -> x.curveSlid(11));
        Due.is(0, () -> x.curveWiggle());
        Due.is(4, () -> x.curveClear());
        x.curveGap(0, 1);
        Due.is(10, () -> x.curveWiggle());
        x.curveClear();
        // A date that follows in the numbers is not read on into behind the last year.
        x.curveDate(500, 10);
        Due.is(1, () -> x.curveGap(0, 11));
        Due.is(0, () -> x.curveSlid(1));
        x.curveClear();
        for (int year = 0; year < 12; year++) {
            int best = year;
            DigHouse z = new DigHouse();
            z.curveRow(best, 500, 10);
            z.curveDate(500, 10);
            z.curveGap(0, 0);
            Due.is(best, () -> z.curveWiggle());
        }
        // Nothing but 0 anywhere: the first year.
        x.curveGap(0, 12);
        Due.is(0, () -> x.curveWiggle());
        // Eight dates of a million each fit.
        DigHouse y = doubled(10);
        for (int i = 1; i <= 8; i++) {
            y.curveGap(9, 0);
        }
        Due.is(8 * 511488, () -> y.curveSlid(0));
        Due.state(() -> y.curveGap(9, 0));
        Due.argument(() -> y.curveGap(9, 60));
        Due.index(() -> y.curveGap(10, 60));
        Due.is(8, () -> y.curveClear());
        Due.is(1, () -> y.curveGap(9, 0));
    }

    /** Signs 32 to 126 of both numbers, the lowest bits first, 0 is none; up to a hundred. */
    private static void signs() {
        int[] good = {0, 32, 33, 125, 126};
        int[] bad = {1, 31, 127, 128, 255};
        for (int place = 0; place < 8; place++) {
            for (int sign : good) {
                DigHouse x = new DigHouse();
                int p = place;
                Due.is(sign == 0 ? 0 : 1, () -> x.curveUnit(p < 4 ? sign << 8 * p : 0, p < 4 ? 0 : sign << 8 * (p - 4)));
            }
            for (int sign : bad) {
                DigHouse x = new DigHouse();
                int p = place;
                Due.argument(() -> x.curveUnit(p < 4 ? sign << 8 * p : 0, p < 4 ? 0 : sign << 8 * (p - 4)));
                Due.is(0, () -> x.curveCount(5));
            }
        }
        DigHouse x = new DigHouse();
        Due.argument(() -> x.curveUnit(-1, 0));
        Due.argument(() -> x.curveUnit(0, -1));
        Due.argument(() -> x.curveUnit(MIN, 0));
        Due.argument(() -> x.curveUnit(0, MAX));
        for (int i = 1; i <= 12; i++) {
            int count = 8 * i;
            Due.is(count, () -> x.curveUnit(0x7e7e7e7e, 0x20202020));
        }
        Due.state(() -> x.curveUnit(0x30303030, 0x30));
        Due.argument(() -> x.curveUnit(0x7f303030, 0x30));
        Due.is(96, () -> x.curveCount(5));
        Due.is(99, () -> x.curveUnit(0x300030, 0x30000000));
        Due.state(() -> x.curveUnit(0x30, 0x30));
        Due.is(100, () -> x.curveUnit(0, 0x30));
        Due.is(100, () -> x.curveUnit(0, 0));
        Due.state(() -> x.curveUnit(0x30, 0));
        Due.argument(() -> x.curveUnit(0x1f, 0));
        Due.is(-1, () -> x.curveRead());
        Due.is(1, () -> x.curveUnit(0x30, 0));
        // In this order they come: 1 : 4 0 0 + 1 0
        DigHouse y = new DigHouse();
        y.curveUnit('1' | ':' << 8 | '4' << 16 | '0' << 24, '0' | '+' << 8 | '1' << 16 | '0' << 24);
        Due.is(1, () -> y.curveRead());
        y.curveDate(400, 10);
        Due.is(999, () -> y.curveWeight(0, 1));
    }
}
