import java.math.BigInteger;
import java.util.function.Supplier;

/** The edges of promise 9: curveRead, curveCount, and the calls of WAYS. */
public final class Edges09Test {
    private static final int MIN = Integer.MIN_VALUE;
    private static final int MAX = Integer.MAX_VALUE;

    public static void main(String[] args) {
        texts();
        rowsThatAreRead();
        bounds();
        beforeSolved();
        whichContexts();
        noMembers();
        spans();
        narrow();
        narrowOfFew();
        apart();
        phase();
        fitless();
        greatest();
        Due.end();
    }

    private static void reads(String text, int due) {
        DigHouse x = new DigHouse();
        x.curveRow(5, 5, 5);
        Due.compare(text + ": " + due, text + ": " + Houses.curveText(x, text));
        Due.is(0, () -> x.curveCount(5));
        if (due < 0) {
            Due.is(1, () -> x.curveCount(6));
            // The pad is empty, so that the next text is read from its beginning.
            Due.is(1, () -> Houses.curveText(x, "0:0+1"));
            Due.is(2, () -> x.curveCount(6));
        }
    }

    private static void texts() {
        reads("", -1);
        reads("0:0+1", 1);
        reads("11:3000+100", 1);
        reads("1:10+10;1:0+1", 2);
        String[] wrong = {"^", "^:", "^;", "^+", "^ 1:0+1", "^-1:0+1", "^a", "1^2:0+1", "9^9:0+1", "0^0:0+1", "0^1:0+1", "1^;", "1^+", "11^0:",
            "1^", "1:^", "1:^:", "1:^+1", "1:0^0", "1:0^:", "1:0^1", "1:300^1+1", "1:3000^0", "1:3000^", "1:999^9", "1:400^0+1",
            "1:0+^", "1:0+^0", "1:0+^01", "1:0+^+1", "1:0+1^+", "1:0+10^1", "1:0+100^0", "1:0+99^9", "1:0+20^0", "1:0+1^:", "1:0+1^ ",
            "1:0+1;^", "1:0+1;^;", "1:0+1;1^2:0+1", "1:0+100;^ 1", "1:0+1;0:0+1;^:", "11:3000+10^2;", "1:0+1;2:0+^0"};
        for (String text : wrong) {
            reads(text.replace("^", ""), -1 - text.indexOf('^'));
        }
    }

    /** Rows are told one behind the other, to the edition in use; as many as a full pad holds. */
    private static void rowsThatAreRead() {
        DigHouse x = new DigHouse();
        StringBuilder rows = new StringBuilder();
        for (int row = 0; row < 15; row++) {
            rows.append(row % 10).append(":0+").append(row % 9 + 1).append(';');
        }
        String all = rows.toString();
        String full = all + "11:3000+99";
        Due.is(100, () -> full.length());
        x.curveEdition();
        Due.is(16, () -> Houses.curveText(x, full));
        Due.is(11, () -> x.curveCount(6));
        Due.is(1, () -> x.curveUse(0));
        Due.is(0, () -> x.curveCount(6));
        x.curveUse(1);
        x.curveDate(2990, 50);
        Due.is(Edges07Test.bell(2990, 50, 0, 0, 3000, 99), () -> x.curveWeight(0, 11));
        DigHouse y = new DigHouse();
        Due.is(2, () -> Houses.curveText(y, "3:500+10;3:600+20"));
        y.curveDate(600, 20);
        Due.is(999, () -> y.curveWeight(0, 3));
        Due.is(-101, () -> Houses.curveText(y, all + "11:3000+9;"));
        Due.is(-101, () -> Houses.curveText(y, all + "11:300+9;4"));
        int[] due = {12, 1, 0, 1, 0, 0, 1};
        for (int what = 0; what < 7; what++) {
            int w = what;
            Due.is(due[w], () -> y.curveCount(w));
        }
    }

    private static void bounds() {
        Supplier<DigHouse> house = () -> {
            DigHouse x = Houses.curve(16, 6);
            for (int c : new int[] {0, 3, 4, 7, 9, 15}) {
                x.dated(c, c % 6);
                x.member(c, true);
            }
            x.solve();
            return x;
        };
        Bounds.of(house, "wayTotal", 3).element(0, 0, 47).hold();
        Bounds.of(house, "wayAnswered", 0, 3, 4).index(0, 0, 15).element(1, 0, 11).element(2, 0, 47).hold();
        Bounds.of(house, "wayBound", 0, 3, 4).element(0, 0, 1).element(1, 0, 11).element(2, 0, 47).hold();
        Bounds.of(house, "wayBoth", 3, 3, 4, 5, 6).index(0, 0, 15).element(1, 0, 11).index(2, 0, 15).element(3, 0, 11)
            .element(4, 0, 47).hold();
        Bounds.of(house, "waySpan", 3, 1).index(0, 0, 15).element(1, 0, 1).hold();
        Bounds.of(house, "wayNarrow", 3, 1, 7).index(0, 0, 15).argument(1, 1, 7).argument(2, 1, 1000).hold();
        Bounds.of(house, "wayNarrow", 3, 5, 1000).index(0, 0, 15).argument(1, 1, 1000).argument(2, 5, 1000).hold();
        Bounds.of(house, "wayFits").hold();
        Bounds.of(house, "wayFitless", 3).element(0, 0, MAX).hold();
        Bounds.of(house, "wayCount", 1).element(0, 0, 2).hold();
        int[] due = {6, 0, 6};
        DigHouse x = house.get();
        for (int what = 0; what < 3; what++) {
            int w = what;
            Due.is(due[w], () -> x.wayCount(w));
        }
    }

    /** Ahead of what was solved the state is told ahead of all others; likewise when solving failed. */
    private static void beforeSolved() {
        DigHouse none = Houses.curve(16, 6);
        unsolved(none);
        DigHouse failed = Houses.curve(16, 6);
        failed.dated(0, 0);
        failed.dated(1, 1);
        failed.layerRelate(0, 1, 3);
        failed.member(0, true);
        failed.member(1, true);
        Due.is(2, () -> failed.solve());
        unsolved(failed);
        failed.member(1, false);
        Due.is(0, () -> failed.solve());
        Due.is(1, () -> failed.wayCount(2));
    }

    private static void unsolved(DigHouse x) {
        for (int bad : new int[] {-1, 0, 3, 16, 48, MIN, MAX}) {
            Due.state(() -> x.wayTotal(bad));
            Due.state(() -> x.wayAnswered(bad, 0, 0));
            Due.state(() -> x.wayAnswered(0, bad, 0));
            Due.state(() -> x.wayBound(bad, 0, 0));
            Due.state(() -> x.wayBoth(0, 0, bad, 0, 0));
            Due.state(() -> x.wayBoth(0, 0, 0, 0, bad));
            Due.state(() -> x.waySpan(bad, 0));
            Due.state(() -> x.wayNarrow(bad, 1, 1));
            Due.state(() -> x.wayNarrow(0, bad, 1));
            Due.state(() -> x.wayFitless(bad));
            Due.state(() -> x.wayCount(bad));
        }
        Due.state(() -> x.wayFits());
    }

    /** A context that is none, one that had no date when it was solved, and arguments that are wrong, in this order. */
    private static void whichContexts() {
        DigHouse x = Houses.curve(3, 2);
        x.dated(0, 0);
        x.solve();
        x.dated(1, 1);
        for (int bad : new int[] {-1, 3, 15, MIN, MAX}) {
            Due.index(() -> x.wayAnswered(bad, 12, 48));
            Due.index(() -> x.wayBoth(0, 12, bad, 12, 48));
            Due.index(() -> x.wayBoth(bad, 0, 0, 0, 0));
            Due.index(() -> x.waySpan(bad, 2));
            Due.index(() -> x.wayNarrow(bad, 0, 0));
        }
        for (int undated : new int[] {1, 2}) {
            Due.element(() -> x.wayAnswered(undated, 0, 0));
            Due.element(() -> x.wayBoth(0, 0, undated, 0, 0));
            Due.element(() -> x.wayBoth(undated, 0, 0, 0, 0));
            Due.element(() -> x.waySpan(undated, 0));
            Due.element(() -> x.wayNarrow(undated, 0, 0));
            Due.element(() -> x.wayNarrow(undated, 1, 1));
        }
        Due.argument(() -> x.wayNarrow(0, 0, 0));
        Due.argument(() -> x.wayNarrow(0, 2, 1));
        x.dated(0, -1);
        Due.is(0, () -> x.waySpan(0, 0));
        x.solve();
        Due.element(() -> x.waySpan(0, 0));
        Due.is(0, () -> x.waySpan(1, 0));
        x.context();
        Due.element(() -> x.waySpan(3, 0));
    }

    /** Without members there are no bounds: behind which, year and digit. */
    private static void noMembers() {
        DigHouse x = Houses.solved(2, 2);
        Due.element(() -> x.wayBound(2, 0, 0));
        Due.element(() -> x.wayBound(0, 12, 0));
        Due.element(() -> x.wayBound(0, 0, 48));
        Due.state(() -> x.wayBound(0, 0, 0));
        Due.state(() -> x.wayBound(1, 11, 47));
        x.member(0, true);
        Due.state(() -> x.wayBound(0, 0, 0));
        x.solve();
        Due.is(1, () -> x.wayCount(2));
        Due.is(x.wayBound(0, 0, 0), () -> x.wayBound(0, 0, 0));
        DigHouse none = new DigHouse();
        Due.is(0, () -> none.solve());
        Due.compare("1", Edges02Test.total(none));
        Due.yes(() -> none.wayFits());
        Due.is(-1, () -> none.wayFitless(0));
        Due.state(() -> none.wayBound(0, 0, 0));
    }

    /** Dates that weigh 999 in these years and nothing in others. */
    private static DigHouse dated(int[]... years) {
        DigHouse x = Houses.contexts(years.length);
        for (int c = 0; c < years.length; c++) {
            for (int y = 0; y < 12; y++) {
                x.curveRow(y, 3000, 1);
            }
            for (int year : years[c]) {
                x.curveRow(year, 500, 1);
            }
            x.dated(c, x.curveDate(500, 1));
        }
        return x;
    }

    private static void spans() {
        DigHouse x = dated(new int[] {0, 11}, new int[] {4}, new int[] {});
        x.dated(2, -1);
        x.solve();
        Due.is(0, () -> x.waySpan(0, 0));
        Due.is(11, () -> x.waySpan(0, 1));
        Due.is(4, () -> x.waySpan(1, 0));
        Due.is(4, () -> x.waySpan(1, 1));
        for (int year = 0; year < 12; year++) {
            int only = year;
            DigHouse one = dated(new int[] {only});
            one.solve();
            Due.is(only, () -> one.waySpan(0, 0));
            Due.is(only, () -> one.waySpan(0, 1));
        }
        x.dated(2, 2);
        Due.is(3, () -> x.solve());
        Due.no(() -> x.wayFits());
        Due.is(-1, () -> x.waySpan(0, 0));
        Due.is(-1, () -> x.waySpan(2, 1));
        Due.is(-1, () -> x.wayNarrow(0, 1, 1000));
        Due.is(-1, () -> x.wayNarrow(2, 1000, 1000));
        Due.is(-1, () -> x.wayFitless(0));
        Due.is(-1, () -> x.wayFitless(MAX));
        Due.element(() -> x.wayFitless(-1));
        Due.compare("0", Edges02Test.total(x));
    }

    /** The shortest row of years with at least the share, of equal ones the first. */
    private static void narrow() {
        DigHouse x = dated(new int[] {0, 1, 2, 3}, new int[] {0, 5, 6, 11}, new int[] {11});
        x.solve();
        int[][] due = {{0, 1, 1000, 0}, {0, 1, 4, 0}, {0, 250, 1000, 0}, {0, 251, 1000, 1}, {0, 1, 2, 1}, {0, 501, 1000, 2}, {0, 3, 4, 2},
            {0, 751, 1000, 3}, {0, 1, 1, 3}, {1, 1, 4, 0}, {1, 251, 1000, 506}, {1, 501, 1000, 6}, {1, 3, 4, 6}, {1, 751, 1000, 11},
            {1, 1000, 1000, 11}, {2, 1, 1000, 1111}, {2, 1000, 1000, 1111}};
        for (int[] row : due) {
            Due.is(row[3], () -> x.wayNarrow(row[0], row[1], row[2]));
        }
    }

    /** With a weight of 1 in all, and all outliers, each year counts 1: 3 of 7 of twelve are more than five. */
    private static void narrowOfFew() {
        DigHouse x = Houses.contexts(1);
        x.curveRow(3, 500, 10);
        x.curveDate(571, 10);
        Due.is(1, () -> x.curveTotal(0));
        x.dated(0, 0);
        x.outlier(0, 1, 1);
        x.solve();
        Due.compare("12", Edges02Test.total(x));
        int[][] due = {{3, 7, 5}, {5, 12, 4}, {6, 12, 5}, {1, 12, 0}, {1, 1, 11}, {1, 13, 0}, {11, 12, 10}, {12, 13, 11}};
        for (int[] row : due) {
            Due.is(row[2], () -> x.wayNarrow(0, row[0], row[1]));
        }
    }

    /** A row from the lower one to the upper one: 0 to 11 years; joined ones are in the same year. */
    private static void apart() {
        int[][] due = {{0, 0, 0}, {5, 5, 0}, {11, 0, 0}, {0, 11, 3}, {4, 5, 3}, {5, 4, 0}};
        for (int[] row : due) {
            DigHouse x = dated(new int[] {row[0]}, new int[] {row[1]});
            x.layerRelate(0, 1, 0);
            Due.is(row[2], () -> x.solve());
            Due.is(1, () -> x.wayCount(1));
            Due.is(row[2] == 0 ? -1 : 0, () -> x.wayFitless(0));
            Due.is(-1, () -> x.wayFitless(1));
            DigHouse same = dated(new int[] {row[0]}, new int[] {row[1]});
            same.layerRelate(0, 1, 3);
            Due.is(row[0] == row[1] ? 0 : 3, () -> same.solve());
        }
        DigHouse x = dated(new int[] {0, 11}, new int[] {0, 11});
        x.layerRelate(0, 1, 0);
        x.solve();
        // In 11 and 0, 11 and 11, 0 and 0, but not in 0 and 11.
        Due.compare(String.valueOf(3L * 11988 * 11988), Edges02Test.total(x));
        Due.is(0, () -> x.wayBoth(0, 0, 1, 11, 8));
        Due.is(1, () -> x.wayBoth(0, 11, 1, 0, 8));
        Due.is(0, () -> x.wayBoth(0, 0, 0, 11, 8));
        Due.is(1, () -> x.wayBoth(0, 0, 0, 0, 8));
        Due.is(2, () -> x.wayBoth(0, 11, 0, 11, 8));
    }

    /** A member's year lies from the first bound to the last one, with both. */
    private static void phase() {
        for (int year = 0; year < 12; year++) {
            DigHouse x = dated(new int[] {year});
            x.member(0, true);
            Due.is(0, () -> x.solve());
            int y = year;
            Due.compare(String.valueOf(11988L * (y + 1) * (12 - y)), Edges02Test.total(x));
            for (int bound = 0; bound < 12; bound++) {
                int b = bound;
                Due.is(b <= y ? (8L * (12 - y)) % 10 : 0, () -> x.wayBound(0, b, 0));
                Due.is(b >= y ? (8L * (y + 1)) % 10 : 0, () -> x.wayBound(1, b, 0));
            }
        }
    }

    /** What can be left out so that nothing fits is left out, by numbers: rows first, then members. */
    private static void fitless() {
        DigHouse x = dated(new int[] {0}, new int[] {11}, new int[] {5}, new int[] {7});
        x.layerRelate(0, 1, 0);
        x.layerRelate(2, 3, 0);
        x.member(0, true);
        x.member(2, true);
        Due.is(3, () -> x.solve());
        // Both rows fail; without row 0 still row 1 does, and no member is needed.
        Due.is(1, () -> x.wayFitless(0));
        Due.is(-1, () -> x.wayFitless(1));
        x.layerUndo(1);
        Due.is(3, () -> x.solve());
        Due.is(0, () -> x.wayFitless(0));
        Due.is(-1, () -> x.wayFitless(1));
        x.layerUndo(0);
        Due.is(0, () -> x.solve());
        Due.is(-1, () -> x.wayFitless(0));
        // A chain that fails over all of its rows: none can be left out.
        DigHouse y = dated(new int[] {3}, new int[] {2, 5}, new int[] {4});
        y.layerRelate(0, 1, 0);
        y.layerRelate(1, 2, 0);
        Due.is(3, () -> y.solve());
        Due.is(0, () -> y.wayFitless(0));
        Due.is(1, () -> y.wayFitless(1));
        Due.is(-1, () -> y.wayFitless(2));
    }

    /** Six dates with all that years can count, in the phase, and without it: digits up to the last one. */
    private static void greatest() {
        for (boolean on : new boolean[] {false, true}) {
            DigHouse x = Houses.contexts(6);
            for (int y = 0; y < 12; y++) {
                x.curveRow(y, 500, 1);
            }
            x.curveDate(500, 1);
            for (int c = 0; c < 6; c++) {
                x.dated(c, 0);
                x.outlier(c, 0, 10);
                x.member(c, on);
            }
            Due.is(0, () -> x.solve());
            BigInteger year = BigInteger.valueOf(10 * 12 * 999);
            BigInteger sum = on ? BigInteger.ZERO : year.multiply(BigInteger.valueOf(12)).pow(6);
            for (int length = 1; on && length <= 12; length++) {
                sum = sum.add(year.multiply(BigInteger.valueOf(length)).pow(6).multiply(BigInteger.valueOf(13 - length)));
            }
            Due.compare(sum.toString(), Edges02Test.total(x));
            Due.is(0, () -> x.wayTotal(47));
            Due.is(11, () -> x.waySpan(5, 1));
        }
    }
}
