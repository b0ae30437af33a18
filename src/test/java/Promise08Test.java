/** curveTotal, curveSum, curveMix, curveJoinRepeats, curveLeast, curveSpan, curveGap, curveSlid, curveWiggle, curveClear, curveUnit. */
public final class Promise08Test {
    public static void main(String[] args) {
        sums();
        tooMuch();
        mixtures();
        repeats();
        least();
        rowOfDates();
        signs();
        full();
        Due.end();
    }

    /** A house whose curve has rows of these ages, with a spread of 1; 0: no row. */
    private static DigHouse rows(int... ages) {
        DigHouse x = new DigHouse();
        for (int y = 0; y < ages.length; y++) {
            if (ages[y] > 0) {
                x.curveRow(y, ages[y], 1);
            }
        }
        return x;
    }

    private static void sums() {
        DigHouse x = rows(100, 0, 110);
        Due.index(() -> x.curveTotal(0));
        x.curveDate(100, 10);
        x.curveDate(110, 10);
        int a = x.curveWeight(0, 0);
        int b = x.curveWeight(0, 2);
        Due.is(999, () -> a);
        Due.is(999 * 101 * 101 / (201 * 201), () -> b);
        Due.is(a + b, () -> x.curveTotal(0));
        Due.is(2, () -> x.curveSum(0, 1));
        Due.is(a + b, () -> x.curveWeight(2, 0));
        Due.is(0, () -> x.curveWeight(2, 1));
        Due.is(2 * (a + b), () -> x.curveTotal(2));
        Due.is(3, () -> x.curveSum(2, 2));
        Due.index(() -> x.curveSum(0, 4));
        Due.index(() -> x.curveSum(-1, 0));
        Due.index(() -> x.curveTotal(-1));
    }

    /** 999 doubled nine times is 511488, with another doubling more than a million. */
    private static void tooMuch() {
        DigHouse x = rows(100);
        x.curveDate(100, 10);
        for (int d = 1; d < 10; d++) {
            int date = d;
            Due.is(date, () -> x.curveSum(date - 1, date - 1));
        }
        Due.is(511488, () -> x.curveTotal(9));
        Due.is(-1, () -> x.curveSum(9, 9));
        Due.is(10, () -> x.curveSum(9, 8));
        Due.is(11, () -> x.curveCount(3));
        Due.is(11, () -> x.curveSum(10, 7));
        Due.state(() -> x.curveSum(9, 9));
    }

    private static void mixtures() {
        DigHouse x = rows(100, 110);
        x.curveDate(100, 10);
        x.curveDate(110, 10);
        int b = x.curveWeight(0, 1);
        Due.is(2, () -> x.curveMix(0, 1, 1, 3));
        Due.is((999 + 2 * b) / 3, () -> x.curveWeight(2, 0));
        Due.is((b + 2 * 999) / 3, () -> x.curveWeight(2, 1));
        Due.is(3, () -> x.curveMix(0, 1, 0, 1));
        Due.is(b, () -> x.curveWeight(3, 0));
        Due.is(4, () -> x.curveMix(0, 1, 1000, 1000));
        Due.is(999, () -> x.curveWeight(4, 0));
        Due.index(() -> x.curveMix(5, 0, 0, 0));
        Due.argument(() -> x.curveMix(0, 1, 0, 0));
        Due.argument(() -> x.curveMix(0, 1, 2, 1));
        Due.argument(() -> x.curveMix(0, 1, -1, 1));
        Due.argument(() -> x.curveMix(0, 1, 1, 1001));
        Due.is(5, () -> x.curveCount(3));
    }

    private static void repeats() {
        DigHouse x = rows(100);
        x.curveDate(100, 3);
        x.curveDate(110, 4);
        x.curveDate(111, 4);
        Due.is(3, () -> x.curveJoinRepeats(0, 1));
        Due.is(999 * 5 * 5 / ((5 + 9) * (5 + 9)), () -> x.curveWeight(3, 0));
        Due.is(-1, () -> x.curveJoinRepeats(0, 2));
        Due.is(4, () -> x.curveMix(0, 1, 1, 1));
        Due.is(-1, () -> x.curveJoinRepeats(0, 4));
        Due.is(-1, () -> x.curveJoinRepeats(4, 0));
        Due.index(() -> x.curveJoinRepeats(0, 5));
        x.curveDate(200, 1);
        x.curveDate(201, 1);
        Due.is(7, () -> x.curveJoinRepeats(5, 6));
        x.curveReservoir(100, 0);
        Due.is(8, () -> x.curveJoinRepeats(5, 6));
        Due.is(999, () -> x.curveWeight(8, 0));
        x.curveReservoir(0, 0);
        Due.is(9, () -> x.curveJoinRepeats(0, 0));
        Due.is(999, () -> x.curveWeight(9, 0));
        x.curveRow(0, 101, 1);
        Due.is(10, () -> x.curveJoinRepeats(0, 0));
        Due.is(999 * 25 / 36, () -> x.curveWeight(10, 0));
        x.curveDate(0, 1);
        Due.state(() -> x.curveJoinRepeats(0, 2));
    }

    private static void spans(DigHouse x, int... due) {
        for (int i = 0; i < due.length; i++) {
            int at = i;
            Due.is(due[i], () -> x.curveSpan(at / 2, at % 2));
        }
        Due.index(() -> x.curveSpan(due.length / 2, 0));
    }

    private static void least() {
        DigHouse x = rows(130, 100, 130, 0, 100, 0, 0, 0, 0, 0, 0, 150);
        Due.index(() -> x.curveSpan(0, 0));
        x.curveDate(100, 20);
        Due.index(() -> x.curveLeast(1, 0, 0));
        Due.argument(() -> x.curveLeast(0, 0, 5));
        Due.argument(() -> x.curveLeast(0, 5, 4));
        Due.argument(() -> x.curveLeast(0, 1, 1001));
        int all = x.curveTotal(0);
        Due.is(1, () -> x.curveLeast(0, 1, 1000));
        spans(x, 1, 1);
        Due.index(() -> x.curveSpan(0, 2));
        Due.index(() -> x.curveSpan(-1, 0));
        int third = x.curveWeight(0, 0);
        Due.is(2, () -> x.curveLeast(0, 1, 2));
        spans(x, 1, 1, 4, 4);
        Due.is(3, () -> x.curveLeast(0, 1, 1));
        spans(x, 0, 2, 4, 4, 11, 11);
        int share = 1000 * (1998 + third) / all;
        Due.is(2, () -> x.curveLeast(0, share, 1000));
        spans(x, 0, 1, 4, 4);
        x.curveReservoir(1000, 0);
        DigHouse y = new DigHouse();
        y.curveDate(1, 1);
        Due.is(0, () -> y.curveLeast(0, 1, 1));
        spans(y);
    }

    private static void rowOfDates() {
        DigHouse x = rows(100, 0, 110, 0, 0, 0, 0, 0, 0, 0, 0, 100);
        x.curveDate(100, 10);
        int b = x.curveWeight(0, 2);
        Due.is(-1, () -> x.curveWiggle());
        Due.is(0, () -> x.curveSlid(0));
        Due.index(() -> x.curveSlid(12));
        Due.index(() -> x.curveSlid(-1));
        Due.index(() -> x.curveGap(1, 99));
        Due.argument(() -> x.curveGap(0, -1));
        Due.argument(() -> x.curveGap(0, 60));
        Due.is(1, () -> x.curveGap(0, 0));
        Due.is(0, () -> x.curveWiggle());
        Due.is(2, () -> x.curveGap(0, 2));
        Due.is(999 + b, () -> x.curveSlid(0));
        Due.is(b, () -> x.curveSlid(2));
        Due.is(999, () -> x.curveSlid(9));
        Due.is(999, () -> x.curveSlid(11));
        Due.is(0, () -> x.curveSlid(10));
        Due.is(0, () -> x.curveWiggle());
        Due.is(3, () -> x.curveGap(0, 59));
        Due.is(999 + b, () -> x.curveSlid(0));
        for (int i = 4; i <= 8; i++) {
            int count = i;
            Due.is(count, () -> x.curveGap(0, 9));
        }
        Due.is(2, () -> x.curveWiggle());
        Due.is(5 * 999 + b, () -> x.curveSlid(2));
        Due.state(() -> x.curveGap(0, 0));
        Due.argument(() -> x.curveGap(0, 60));
        Due.is(8, () -> x.curveCount(4));
        Due.is(8, () -> x.curveClear());
        Due.is(0, () -> x.curveClear());
        Due.is(-1, () -> x.curveWiggle());
    }

    private static void signs() {
        DigHouse x = new DigHouse();
        Due.is(0, () -> x.curveUnit(0, 0));
        Due.is(2, () -> x.curveUnit(0x00410000, 0x42000000));
        Due.argument(() -> x.curveUnit(31, 0));
        Due.argument(() -> x.curveUnit(65, 127 << 24));
        Due.argument(() -> x.curveUnit(-1, 0));
        Due.is(2, () -> x.curveCount(5));
        for (int i = 0; i < 12; i++) {
            int count = 10 + 8 * i;
            Due.is(count, () -> x.curveUnit(0x20202020, 0x7e7e7e7e));
        }
        Due.state(() -> x.curveUnit(0x20202020, 0x20));
        Due.argument(() -> x.curveUnit(0x20202020, 0x10));
        Due.is(100, () -> x.curveUnit(0x20, 0x20));
        Due.state(() -> x.curveUnit(0x20, 0));
        Due.is(100, () -> x.curveUnit(0, 0));
    }

    private static void full() {
        DigHouse x = new DigHouse();
        for (int d = 0; d < 12; d++) {
            x.curveDate(100, 10);
        }
        Due.state(() -> x.curveSum(0, 0));
        Due.state(() -> x.curveMix(0, 0, 1, 1));
        Due.argument(() -> x.curveMix(0, 0, 2, 1));
        Due.state(() -> x.curveJoinRepeats(0, 1));
    }
}
