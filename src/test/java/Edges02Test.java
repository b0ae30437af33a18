import java.util.function.Supplier;

/** The edges of promises 1 and 2: a new object, context, phase, hide, draw, dated, outlier, member, solve, find, object, place. */
public final class Edges02Test {
    public static void main(String[] args) {
        aNewObject();
        contexts();
        draws();
        misfits();
        dates();
        sixDates();
        outliers();
        refusedOutliers();
        undated();
        solves();
        weights();
        finds();
        objects();
        places();
        Due.end();
    }

    private static void aNewObject() {
        DigHouse x = new DigHouse();
        for (int what = 0; what <= 5; what++) {
            int w = what;
            Due.is(0, () -> x.had(w));
        }
        Due.is(0, () -> x.present());
        Due.is(12, () -> x.curveCount(0));
        Due.is(0, () -> x.save());
        Due.argument(() -> x.cut(1));
        Due.state(() -> x.shown());
        Due.state(() -> x.reopen());
    }

    private static void contexts() {
        Supplier<DigHouse> all = () -> Houses.contexts(16);
        Bounds.of(() -> Houses.contexts(15), "context").hold().full(all);
        Bounds.of(all, "phase", 7, 2).index(0, 0, 15).argument(1, -1, 5).hold();
        Bounds.of(all, "hide", 7, true).index(0, 0, 15).hold();
        Bounds.of(() -> Houses.contexts(1), "phase", 0, 0).index(0, 0, 0).argument(1, -1, 5).hold();
        DigHouse x = Houses.contexts(16);
        Due.is(-1, () -> x.phase(0, 0));
        Due.is(0, () -> x.phase(0, 5));
        Due.is(5, () -> x.phase(0, -1));
        Due.is(-1, () -> x.phase(0, -1));
    }

    private static void draws() {
        Supplier<DigHouse> drawn = () -> {
            DigHouse x = Houses.stack(2);
            x.phase(0, 1);
            for (int i = 0; i < 40; i++) {
                x.phase(1, i % 2);
                Due.is(i % 2 == 0 ? -2 : 0, () -> x.draw(i(x) % 13));
            }
            return x;
        };
        Bounds.of(() -> Houses.stack(3), "draw", 3).argument(0, 0, 12).hold().full(drawn);
        DigHouse x = Houses.contexts(0);
        for (int i = 0; i < 39; i++) {
            x.draw(0);
        }
        Due.is(0, () -> x.draw(12));
        Due.is(0, () -> x.sheetCrossings(12));
        Due.state(() -> x.draw(12));
        Due.is(0, () -> x.sheetCrossings(12));
    }

    private static int i(DigHouse x) {
        return x.had(4);
    }

    /** Without a sheet, but drawn: what may be asked, and which calls throw what. */
    private static void misfits() {
        DigHouse x = Houses.stack(2);
        x.phase(0, 1);
        x.phase(1, 0);
        Due.is(-2, () -> x.draw(12));
        Due.is(0, () -> x.sheetGroup(0));
        Due.is(15, () -> x.sheetGroup(15));
        Due.index(() -> x.sheetGroup(16));
        Due.index(() -> x.sheetGroup(-1));
        Due.is(0, () -> x.sheetMisfit(0, 0));
        Due.is(1, () -> x.sheetMisfit(0, 1));
        Due.is(-1, () -> x.sheetMisfit(1, 0));
        Due.is(-1, () -> x.sheetMisfit(Integer.MAX_VALUE, 1));
        Due.index(() -> x.sheetMisfit(-1, 0));
        Due.index(() -> x.sheetMisfit(0, 2));
        Due.index(() -> x.sheetMisfit(0, -1));
        int[] counts = {2, 1, 2, 0, 0};
        for (int what = 0; what < 5; what++) {
            int w = what;
            Due.is(counts[what], () -> x.sheetCount(w));
        }
        Due.index(() -> x.sheetCount(5));
        Due.index(() -> x.sheetCount(-1));
        Due.index(() -> x.sheetCrossings(-1));
        Due.index(() -> x.sheetCrossings(Integer.MIN_VALUE));
        Due.state(() -> x.sheetCrossings(0));
        Due.state(() -> x.sheetCrossings(Integer.MAX_VALUE));
        Due.index(() -> x.sheetAt(16, 0));
        Due.index(() -> x.sheetAt(-1, 0));
        Due.index(() -> x.sheetAt(15, 2));
        Due.index(() -> x.sheetAt(0, -1));
        Due.state(() -> x.sheetAt(0, 0));
        Due.state(() -> x.sheetAt(15, 1));
        Due.state(() -> x.sheetLinks());
        Due.index(() -> x.sheetLink(-1, 0));
        Due.index(() -> x.sheetLink(0, -1));
        Due.state(() -> x.sheetLink(0, 0));
        Due.state(() -> x.sheetLink(Integer.MAX_VALUE, Integer.MAX_VALUE));
        Due.index(() -> x.sheetCommand(-2));
        Due.state(() -> x.sheetCommand(-1));
        Due.state(() -> x.sheetCommand(Integer.MAX_VALUE));
        x.phase(1, 1);
        Due.is(0, () -> x.draw(0));
        Due.is(-1, () -> x.sheetMisfit(0, 0));
        Due.is(1, () -> x.sheetLinks());
    }

    private static void dates() {
        Supplier<DigHouse> house = () -> Houses.curve(16, 12);
        Bounds.of(house, "dated", 3, 4).index(0, 0, 15).element(1, -1, 11).hold();
        Supplier<DigHouse> dated = () -> {
            DigHouse x = house.get();
            x.dated(0, 0);
            x.dated(15, 11);
            return x;
        };
        Bounds.of(dated, "outlier", 0, 0, 10).index(0, 0, 15).argument(1, 0, 10).argument(2, 1, 10).hold();
        Bounds.of(dated, "outlier", 15, 0, 1).index(0, 0, 15).argument(1, 0, 1).argument(2, 1, 10).hold();
        Bounds.of(dated, "member", 0, true).index(0, 0, 15).hold();
        DigHouse x = dated.get();
        Due.element(() -> x.outlier(1, 11, 0));
        Due.element(() -> x.outlier(14, 0, 1));
        Due.element(() -> x.member(1, false));
        Due.is(0, () -> x.dated(0, -1));
        Due.element(() -> x.outlier(0, 0, 1));
        Due.element(() -> x.member(0, true));
        DigHouse none = Houses.contexts(16);
        Due.element(() -> none.dated(0, 0));
        Due.is(-1, () -> none.dated(0, -1));
    }

    /** Six have dates: a seventh may not get one, but these six may get others, and the seventh none. */
    private static void sixDates() {
        DigHouse x = Houses.curve(16, 12);
        for (int c = 10; c < 15; c++) {
            x.dated(c, 0);
        }
        Due.is(-1, () -> x.dated(15, 11));
        Due.state(() -> x.dated(0, 0));
        Due.state(() -> x.dated(9, 11));
        Due.element(() -> x.dated(0, 12));
        Due.element(() -> x.dated(0, -2));
        Due.index(() -> x.dated(16, 0));
        Due.is(-1, () -> x.dated(0, -1));
        Due.is(11, () -> x.dated(15, 0));
        Due.is(0, () -> x.dated(10, 11));
        Due.is(0, () -> x.solve());
        Due.is(6, () -> x.wayCount(0));
        Due.is(0, () -> x.dated(12, -1));
        Due.is(-1, () -> x.dated(0, 3));
        Due.state(() -> x.dated(12, 3));
    }

    /** Shares of outliers: above from 0 to below, below from 1 to 10; a date's end takes its share and membership. */
    private static void outliers() {
        DigHouse x = Houses.curve(1, 1);
        x.dated(0, 0);
        long whole = 12L * x.curveTotal(0);
        for (int below = 1; below <= 10; below++) {
            int b = below;
            for (int above = 0; above <= below; above++) {
                x.outlier(0, above, below);
                x.solve();
                // Of all years together each share counts the same.
                Due.compare(String.valueOf(below * whole), total(x));
            }
            Due.argument(() -> x.outlier(0, b + 1, b));
        }
        x.outlier(0, 10, 10);
        x.member(0, true);
        x.dated(0, -1);
        x.dated(0, 0);
        x.solve();
        Due.compare(String.valueOf(whole), total(x));
        for (int y = 0; y < 12; y++) {
            Due.compare(String.valueOf(12L * x.curveWeight(0, y)), answered(x, 0, y));
        }
        Due.is(0, () -> x.wayCount(2));
        x.outlier(0, 10, 10);
        Due.argument(() -> x.outlier(0, 0, 11));
        Due.argument(() -> x.outlier(0, 0, 0));
        x.solve();
        // All outliers: each year counts the sum of the weights.
        for (int y = 0; y < 12; y++) {
            Due.compare(String.valueOf(10L * x.curveTotal(0)), answered(x, 0, y));
        }
        x.dated(0, 0);
        x.solve();
        Due.compare(String.valueOf(10 * whole), total(x));
    }

    static String total(DigHouse x) {
        StringBuilder all = new StringBuilder();
        for (int d = 0; d < 48; d++) {
            all.insert(0, x.wayTotal(d));
        }
        return new java.math.BigInteger(all.toString()).toString();
    }

    static String answered(DigHouse x, int context, int year) {
        StringBuilder all = new StringBuilder();
        for (int d = 0; d < 48; d++) {
            all.insert(0, x.wayAnswered(context, year, d));
        }
        return new java.math.BigInteger(all.toString()).toString();
    }

    /** A refused share leaves the former one as it is. */
    private static void refusedOutliers() {
        DigHouse x = Houses.curve(1, 1);
        x.dated(0, 0);
        x.outlier(0, 1, 3);
        Due.argument(() -> x.outlier(0, 2, 11));
        Due.argument(() -> x.outlier(0, 5, 4));
        Due.argument(() -> x.outlier(0, -1, 7));
        Due.argument(() -> x.outlier(0, 0, 0));
        x.solve();
        for (int y = 0; y < 12; y++) {
            Due.compare(String.valueOf(2L * 12 * x.curveWeight(0, y) + x.curveTotal(0)), answered(x, 0, y));
        }
    }

    /** Without a date a context stands for none, and lies between none: neither joined nor in a stack. */
    private static void undated() {
        DigHouse x = Houses.curve(4, 3);
        x.layerRelate(0, 1, 3);
        x.layerRelate(2, 0, 0);
        x.layerRelate(1, 3, 0);
        x.dated(1, 0);
        x.dated(2, 1);
        Due.is(0, () -> x.solve());
        Due.is(2, () -> x.wayCount(0));
        Due.is(1, () -> x.wayCount(1));
        Due.compare("true", String.valueOf(answeredBoth(x, 2, 4, 1, 3).signum() > 0));
        Due.compare("0", answeredBoth(x, 2, 3, 1, 4).toString());
        x.dated(1, -1);
        x.dated(3, 2);
        Due.is(0, () -> x.solve());
        Due.is(1, () -> x.wayCount(1));
        Due.is(0, () -> x.wayBoth(2, 3, 3, 4, 9));
        Due.compare("true", String.valueOf(answeredBoth(x, 2, 4, 3, 3).signum() > 0));
        Due.compare("0", answeredBoth(x, 2, 3, 3, 4).toString());
        x.dated(0, 0);
        x.dated(1, 0);
        Due.is(0, () -> x.solve());
        Due.is(4, () -> x.wayCount(0));
        Due.is(3, () -> x.wayCount(1));
        Due.compare("0", answeredBoth(x, 0, 3, 1, 4).toString());
        // A stack with nothing but undated ones between the first and the last.
        DigHouse y = Houses.curve(16, 2);
        for (int c = 1; c < 16; c++) {
            y.layerRelate(c - 1, c, 0);
        }
        y.dated(0, 0);
        y.dated(15, 1);
        Due.is(0, () -> y.solve());
        Due.is(1, () -> y.wayCount(1));
        y.dated(7, 1);
        Due.is(0, () -> y.solve());
        Due.is(2, () -> y.wayCount(1));
    }

    private static java.math.BigInteger answeredBoth(DigHouse x, int a, int year, int b, int other) {
        StringBuilder all = new StringBuilder();
        for (int d = 0; d < 48; d++) {
            all.insert(0, x.wayBoth(a, year, b, other, d));
        }
        return new java.math.BigInteger(all.toString());
    }

    private static void solves() {
        Supplier<DigHouse> solved = () -> {
            DigHouse x = Houses.curve(4, 4);
            for (int c = 0; c < 4; c++) {
                x.dated(c, c);
            }
            x.layerRelate(0, 1, 0);
            x.layerRelate(0, 2, 0);
            x.layerRelate(1, 3, 0);
            x.layerRelate(2, 3, 0);
            for (int i = 0; i < 100; i++) {
                Due.is(1, () -> x.solve());
            }
            return x;
        };
        Bounds.of(() -> Houses.contexts(1), "solve").hold().full(solved);
        DigHouse x = Houses.curve(2, 2);
        x.dated(0, 0);
        x.dated(1, 1);
        x.layerRelate(0, 1, 3);
        x.member(0, true);
        Due.is(0, () -> x.solve());
        x.member(1, true);
        Due.is(2, () -> x.solve());
        Due.state(() -> x.wayTotal(0));
        for (int i = 0; i < 90; i++) {
            Due.is(2, () -> x.solve());
        }
        x.member(0, false);
        Due.is(0, () -> x.solve());
        x.layerUndo(0);
        x.member(0, true);
        Due.is(0, () -> x.solve());
        Due.is(2, () -> x.wayCount(2));
        Due.is(0, () -> x.wayCount(1));
        for (int i = 94; i < 100; i++) {
            Due.is(0, () -> x.solve());
        }
        Due.state(() -> x.solve());
        Due.is(2, () -> x.wayCount(2));
    }

    /** A weight of 999 counts as it is, one of 1000 and more as 999. */
    private static void weights() {
        DigHouse x = Houses.contexts(1);
        x.curveRow(0, 500, 10);
        x.curveRow(1, 560, 10);
        x.curveDate(500, 10);
        int small = x.curveWeight(0, 1);
        Due.compare("999 true", x.curveWeight(0, 0) + " " + (small > 1 && small < 499));
        int sum = x.curveSum(0, 0);
        x.dated(0, sum);
        x.solve();
        Due.compare(String.valueOf(12 * 999), answered(x, 0, 0));
        Due.compare(String.valueOf(12 * 2 * small), answered(x, 0, 1));
        Due.compare("0", answered(x, 0, 2));
        x.outlier(0, 1, 1);
        x.solve();
        Due.compare(String.valueOf(999 + 2 * small), answered(x, 0, 11));
    }

    private static void finds() {
        Supplier<DigHouse> all = () -> {
            DigHouse x = Houses.contexts(16);
            for (int f = 0; f < 20; f++) {
                Due.is(i(x) - 16, () -> x.find(15, 3, 7));
            }
            return x;
        };
        Bounds.of(() -> Houses.contexts(16), "find", 3, 1, 2).index(0, 0, 15).argument(1, 0, 3).argument(2, -1, 7).hold().full(all);
    }

    private static void objects() {
        Supplier<DigHouse> finds = () -> {
            DigHouse x = Houses.contexts(1);
            for (int f = 0; f < 20; f++) {
                x.find(0, 0, -1);
            }
            return x;
        };
        Supplier<DigHouse> all = () -> {
            DigHouse x = finds.get();
            for (int o = 0; o < 10; o++) {
                int object = o;
                Due.is(object, () -> x.object(object + 5, 1, 10000, 1, 1000000));
            }
            return x;
        };
        Bounds.of(finds, "object", 7, 5, 5, 5, 5).element(0, 0, 19).argument(1, 1, 10000).argument(2, 1, 10000)
            .argument(3, 1, 10000).argument(4, 1, 1000000).hold();
        Bounds.of(finds, "object", 0, 5, 5, 5, 5).element(0, 0, 19).argument(1, 1, 10000).argument(2, 1, 10000)
            .argument(3, 1, 10000).argument(4, 1, 1000000).full(all);
        DigHouse x = all.get();
        // What is an object already is answered ahead of sizes and of how many there are.
        Due.is(-1, () -> x.object(5, 0, 0, 0, 0));
        Due.is(-1, () -> x.object(14, 10001, 1, 1, Integer.MIN_VALUE));
        Due.element(() -> x.object(20, 1, 1, 1, 1));
        Due.is(33, () -> x.had(4));
        DigHouse none = Houses.contexts(1);
        Due.element(() -> none.object(0, 1, 1, 1, 1));
    }

    private static void places() {
        Supplier<DigHouse> some = () -> places(23);
        Supplier<DigHouse> all = () -> places(24);
        Bounds.of(some, "place", 3, 500).element(0, -1, 22).argument(1, 1, 1000000000).hold();
        Bounds.of(all, "place", 3, 500).element(0, -1, 23).argument(1, 1, 1000000000).full(all);
        DigHouse x = new DigHouse();
        Due.element(() -> x.place(0, 1));
        Due.is(0, () -> x.place(-1, 1));
        Due.is(1, () -> x.place(0, 1000000000));
        Due.element(() -> x.place(2, 1));
    }

    private static DigHouse places(int count) {
        DigHouse x = new DigHouse();
        for (int p = 0; p < count; p++) {
            x.place(p - 1, 1000000000);
        }
        return x;
    }
}
