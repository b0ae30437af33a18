/** curveRead, curveCount; wayTotal, wayAnswered, wayBound, wayBoth, waySpan, wayNarrow, wayFits, wayFitless, wayCount. */
public final class Promise09Test {
    public static void main(String[] args) {
        texts();
        notSolved();
        wrongInputs();
        narrow();
        fitless();
        members();
        Due.end();
    }

    private static int read(DigHouse x, String text) {
        for (char c : text.toCharArray()) {
            x.curveUnit(c, 0);
        }
        return x.curveRead();
    }

    private static void texts() {
        DigHouse x = new DigHouse();
        Due.is(-1, () -> x.curveRead());
        Due.is(1, () -> read(x, "0:0+1"));
        Due.is(2, () -> read(x, "11:3000+100;11:10+5"));
        Due.is(2, () -> x.curveCount(6));
        x.curveDate(10, 5);
        Due.is(999, () -> x.curveWeight(0, 11));
        String[] wrong = {"12:", "00:", "1:01", "1:3001+", "1:30000", "1:5+0", "1:5+101", "1:5+00", "1:5;", "1:5+5;", "x", "1:5+5:",
            ":", "1", "", "1:5+5;;", " 1:5+5", "1:5+5 "};
        int[] at = {1, 1, 3, 5, 6, 4, 6, 4, 3, 6, 0, 5, 0, 1, 0, 6, 0, 5};
        for (int i = 0; i < wrong.length; i++) {
            int k = i;
            Due.is(-1 - at[i], () -> read(x, wrong[k]));
            Due.is(0, () -> x.curveCount(5));
        }
        Due.is(-11, () -> read(x, "3:77+7;4:9;5"));
        Due.is(2, () -> x.curveCount(6));
        Due.is(7, () -> x.curveUnit(0x373a3333, 0x002b3700 | 0x35));
        Due.index(() -> x.curveCount(7));
        Due.index(() -> x.curveCount(-1));
        x.curveEdition();
        Due.is(2, () -> x.curveCount(6));
    }

    private static DigHouse curve() {
        DigHouse x = new DigHouse();
        for (int y = 0; y < 12; y++) {
            x.curveRow(y, 400 - 10 * y, 10);
        }
        for (int c = 0; c < 4; c++) {
            x.context();
        }
        return x;
    }

    private static void notSolved() {
        DigHouse x = curve();
        Due.state(() -> x.wayTotal(99));
        Due.state(() -> x.wayAnswered(99, 99, 99));
        Due.state(() -> x.wayBound(9, 9, 99));
        Due.state(() -> x.wayBoth(99, 0, 0, 0, 0));
        Due.state(() -> x.waySpan(99, 0));
        Due.state(() -> x.wayNarrow(99, 0, 0));
        Due.state(() -> x.wayFits());
        Due.state(() -> x.wayFitless(-1));
        Due.state(() -> x.wayCount(9));
    }

    private static void wrongInputs() {
        DigHouse x = curve();
        x.curveDate(350, 10);
        x.dated(1, 0);
        x.solve();
        Due.element(() -> x.wayTotal(48));
        Due.element(() -> x.wayTotal(-1));
        Due.index(() -> x.wayAnswered(4, 99, 99));
        Due.element(() -> x.wayAnswered(0, 0, 0));
        Due.element(() -> x.wayAnswered(1, 12, 0));
        Due.element(() -> x.wayAnswered(1, -1, 0));
        Due.element(() -> x.wayAnswered(1, 0, 48));
        Due.element(() -> x.wayBound(2, 0, 0));
        Due.element(() -> x.wayBound(0, 12, 0));
        Due.element(() -> x.wayBound(0, 0, -1));
        Due.state(() -> x.wayBound(0, 0, 0));
        Due.index(() -> x.wayBoth(1, 99, 4, 0, 0));
        Due.index(() -> x.wayBoth(-1, 0, 1, 0, 0));
        Due.element(() -> x.wayBoth(1, 0, 2, 0, 0));
        Due.element(() -> x.wayBoth(2, 0, 1, 0, 0));
        Due.element(() -> x.wayBoth(1, 0, 1, 12, 0));
        Due.element(() -> x.wayBoth(1, -1, 1, 0, 0));
        Due.element(() -> x.wayBoth(1, 0, 1, 0, 48));
        Due.index(() -> x.waySpan(4, 9));
        Due.element(() -> x.waySpan(0, 0));
        Due.element(() -> x.waySpan(1, 2));
        Due.index(() -> x.wayNarrow(4, 0, 0));
        Due.element(() -> x.wayNarrow(0, 0, 0));
        Due.argument(() -> x.wayNarrow(1, 0, 1));
        Due.argument(() -> x.wayNarrow(1, 2, 1));
        Due.argument(() -> x.wayNarrow(1, 1, 1001));
        Due.element(() -> x.wayFitless(-1));
        Due.is(-1, () -> x.wayFitless(0));
        Due.element(() -> x.wayCount(3));
        Due.element(() -> x.wayCount(-1));
        Due.is(1, () -> x.wayCount(0));
        Due.is(8, () -> x.wayBoth(1, 5, 1, 5, 0));
        Due.is(0, () -> x.wayBoth(1, 5, 1, 4, 0));
        x.context();
        Due.element(() -> x.wayAnswered(4, 0, 0));
        x.dated(1, -1);
        Due.is(8, () -> x.wayAnswered(1, 5, 0));
    }

    private static void narrow() {
        DigHouse x = new DigHouse();
        x.context();
        x.curveRow(2, 100, 1);
        x.curveRow(7, 100, 1);
        x.curveRow(8, 100, 1);
        x.curveDate(100, 10);
        x.dated(0, 0);
        x.solve();
        Due.is(202, () -> x.wayNarrow(0, 1, 3));
        Due.is(708, () -> x.wayNarrow(0, 334, 1000));
        Due.is(708, () -> x.wayNarrow(0, 2, 3));
        Due.is(208, () -> x.wayNarrow(0, 667, 1000));
        Due.is(208, () -> x.wayNarrow(0, 1000, 1000));
        Due.is(2, () -> x.waySpan(0, 0));
        Due.is(8, () -> x.waySpan(0, 1));
        DigHouse y = new DigHouse();
        y.context();
        y.curveDate(100, 10);
        y.dated(0, 0);
        y.solve();
        Due.is(-1, () -> y.wayNarrow(0, 1, 1));
        Due.is(-1, () -> y.waySpan(0, 0));
        Due.is(-1, () -> y.waySpan(0, 1));
        Due.no(() -> y.wayFits());
        Due.is(-1, () -> y.wayFitless(0));
    }

    /** Dates in single years: 0 in year 5, 1 in year 3, 2 in year 5, 3 in year 9, each over the next one. */
    private static void fitless() {
        DigHouse y = new DigHouse();
        int[] years = {5, 3, 5, 9};
        for (int e = 0; e < 4; e++) {
            y.context();
            if (e > 0) {
                y.curveEdition();
            }
        }
        y.curveUse(0);
        for (int e = 0; e < 4; e++) {
            y.curveUse(e);
            y.curveRow(years[e], 100, 1);
            y.dated(e, y.curveDate(100, 1));
        }
        y.layerRelate(0, 1, 0);
        y.layerRelate(1, 2, 0);
        y.layerRelate(2, 3, 0);
        y.member(1, true);
        Due.is(3, () -> y.solve());
        Due.is(3, () -> y.wayCount(1));
        Due.is(1, () -> y.wayCount(2));
        Due.no(() -> y.wayFits());
        Due.is(2, () -> y.wayFitless(0));
        Due.is(-1, () -> y.wayFitless(1));
        y.layerUndo(2);
        Due.is(3, () -> y.solve());
        Due.is(1, () -> y.wayFitless(0));
        Due.is(-1, () -> y.wayFitless(1));
        y.layerUndo(1);
        Due.is(0, () -> y.solve());
        Due.is(-1, () -> y.wayFitless(0));
        DigHouse x = new DigHouse();
        x.context();
        x.curveDate(1, 1);
        x.dated(0, 0);
        x.member(0, true);
        Due.is(3, () -> x.solve());
        Due.is(-1, () -> x.wayFitless(0));
    }

    /** One date in one year: its bounds lie at both sides of it. */
    private static void members() {
        DigHouse x = new DigHouse();
        x.context();
        x.curveRow(3, 100, 1);
        x.curveDate(100, 1);
        x.dated(0, 0);
        x.solve();
        Due.is(8, () -> x.wayTotal(0));
        Due.is(8, () -> x.wayTotal(1));
        x.member(0, true);
        Due.is(0, () -> x.solve());
        long one = 999 * 12;
        long total = 0;
        for (int d = 11; d >= 0; d--) {
            total = total * 10 + x.wayTotal(d);
        }
        long sum = total;
        Due.is(one * 4 * 9, () -> sum);
        for (int y = 0; y < 12; y++) {
            int year = y;
            Due.is(y <= 3 ? one * 9 / 10 % 10 : 0, () -> x.wayBound(0, year, 1));
            Due.is(y >= 3 ? one * 4 / 10 % 10 : 0, () -> x.wayBound(1, year, 1));
        }
    }
}
