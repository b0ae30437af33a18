/** context, phase, hide, draw, dated, outlier, member, solve, find, object, place. */
public final class Promise02Test {
    public static void main(String[] args) {
        contexts();
        drawing();
        dates();
        solving();
        notTrees();
        solvedTooOften();
        finds();
        objects();
        places();
        Due.end();
    }

    private static void contexts() {
        DigHouse x = new DigHouse();
        Due.index(() -> x.phase(0, 0));
        for (int c = 0; c < 16; c++) {
            int context = c;
            Due.is(context, () -> x.context());
        }
        Due.state(() -> x.context());
        Due.is(16, () -> x.had(4));
        Due.is(-1, () -> x.phase(15, 5));
        Due.is(5, () -> x.phase(15, -1));
        Due.is(-1, () -> x.phase(15, 0));
        Due.argument(() -> x.phase(15, 6));
        Due.argument(() -> x.phase(15, -2));
        Due.index(() -> x.phase(16, 6));
        Due.index(() -> x.phase(-1, 0));
        Due.is(0, () -> x.phase(15, 0));
        Due.yes(() -> x.hide(0, true));
        Due.no(() -> x.hide(0, true));
        Due.yes(() -> x.hide(0, false));
        Due.no(() -> x.hide(1, false));
        Due.index(() -> x.hide(16, true));
    }

    private static void drawing() {
        DigHouse x = new DigHouse();
        Due.state(() -> x.sheetCount(9));
        Due.argument(() -> x.draw(-1));
        Due.argument(() -> x.draw(13));
        Due.state(() -> x.sheetCount(0));
        Due.is(0, () -> x.draw(0));
        Due.is(0, () -> x.sheetCount(0));
        x.context();
        x.context();
        x.layerRelate(0, 1, 0);
        Due.is(0, () -> x.draw(12));
        Due.is(2, () -> x.sheetCount(0));
        Due.is(1, () -> x.sheetAt(1, 0));
        x.layerUndo(0);
        x.phase(0, 2);
        Due.is(1, () -> x.sheetAt(1, 0));
        Due.is(1, () -> x.sheetCount(1));
        x.layerRelate(0, 1, 1);
        x.phase(1, 1);
        Due.is(-2, () -> x.draw(1));
        Due.is(0, () -> x.sheetMisfit(0, 0));
        Due.is(1, () -> x.sheetMisfit(0, 1));
        Due.state(() -> x.sheetAt(0, 0));
        Due.state(() -> x.sheetLinks());
        x.phase(1, 2);
        Due.is(0, () -> x.draw(1));
        Due.is(1, () -> x.sheetLinks());
        for (int i = 4; i < 40; i++) {
            Due.is(0, () -> x.draw(0));
        }
        Due.state(() -> x.draw(0));
        Due.argument(() -> x.draw(13));
        Due.is(1, () -> x.sheetLinks());
    }

    private static DigHouse dated(int contexts) {
        DigHouse x = new DigHouse();
        for (int y = 0; y < 12; y++) {
            x.curveRow(y, 400 - 10 * y, 10);
        }
        for (int c = 0; c < contexts; c++) {
            x.context();
        }
        for (int d = 0; d < 7; d++) {
            x.curveDate(400 - 15 * d, 12);
        }
        return x;
    }

    private static void dates() {
        DigHouse x = dated(8);
        Due.index(() -> x.dated(8, 99));
        Due.element(() -> x.dated(0, 7));
        Due.element(() -> x.dated(0, -2));
        Due.is(-1, () -> x.dated(0, -1));
        Due.element(() -> x.outlier(0, 5, 0));
        Due.element(() -> x.member(0, true));
        Due.index(() -> x.outlier(8, 0, 1));
        Due.index(() -> x.member(-1, true));
        for (int c = 0; c < 6; c++) {
            int context = c;
            Due.is(-1, () -> x.dated(context, 6));
        }
        Due.state(() -> x.dated(6, 0));
        Due.element(() -> x.dated(6, 9));
        Due.is(-1, () -> x.dated(6, -1));
        Due.is(6, () -> x.dated(5, 2));
        Due.is(2, () -> x.dated(5, -1));
        Due.is(-1, () -> x.dated(6, 0));
        Due.argument(() -> x.outlier(0, 0, 0));
        Due.argument(() -> x.outlier(0, 0, 11));
        Due.argument(() -> x.outlier(0, 4, 3));
        Due.argument(() -> x.outlier(0, -1, 3));
        x.outlier(0, 10, 10);
        Due.yes(() -> x.member(0, true));
        Due.no(() -> x.member(0, true));
        Due.yes(() -> x.member(0, false));
        Due.no(() -> x.member(1, false));
        Due.yes(() -> x.member(0, true));
        Due.is(6, () -> x.dated(0, -1));
        Due.is(-1, () -> x.dated(0, 1));
        Due.yes(() -> x.member(0, true));
        Due.yes(() -> x.member(0, false));
    }

    /** A date alone: what its years count, with and without outliers, and again at first when it is dated anew. */
    private static void solving() {
        DigHouse x = dated(2);
        Due.state(() -> x.wayTotal(99));
        x.dated(1, 0);
        Due.is(0, () -> x.solve());
        long whole = 12L * x.curveTotal(0);
        same(x, whole);
        x.outlier(1, 1, 4);
        Due.is(0, () -> x.solve());
        same(x, 3 * whole + whole);
        x.dated(1, -1);
        x.dated(1, 0);
        same(x, 4 * whole);
        Due.is(0, () -> x.solve());
        same(x, whole);
        x.dated(1, -1);
        Due.is(0, () -> x.solve());
        same(x, 1);
        Due.is(0, () -> x.wayCount(0));
        int twice = x.curveSum(0, 0);
        x.dated(0, twice);
        Due.is(0, () -> x.solve());
        long least = 0;
        for (int y = 0; y < 12; y++) {
            least += 12L * Math.min(999, x.curveWeight(twice, y));
        }
        same(x, least);
        Due.compare("true", String.valueOf(least < 24L * x.curveTotal(0)));
    }

    private static void same(DigHouse x, long total) {
        long sum = 0;
        for (int d = 15; d >= 0; d--) {
            sum = sum * 10 + x.wayTotal(d);
        }
        Due.compare(String.valueOf(total), String.valueOf(sum));
    }

    private static void notTrees() {
        DigHouse x = dated(5);
        x.layerRelate(0, 1, 0);
        x.layerRelate(0, 2, 0);
        x.layerRelate(1, 3, 0);
        x.layerRelate(2, 3, 0);
        x.layerRelate(4, 3, 3);
        x.dated(0, 0);
        x.dated(1, 1);
        x.dated(2, 2);
        Due.is(0, () -> x.solve());
        Due.is(2, () -> x.wayCount(1));
        x.dated(3, 3);
        Due.is(1, () -> x.solve());
        Due.state(() -> x.wayTotal(0));
        Due.state(() -> x.wayCount(9));
        x.dated(1, -1);
        Due.is(0, () -> x.solve());
        Due.is(2, () -> x.wayCount(1));
        x.dated(4, 4);
        Due.is(0, () -> x.solve());
        Due.is(4, () -> x.wayCount(0));
        Due.is(3, () -> x.wayCount(1));
        x.member(0, true);
        x.member(4, true);
        Due.is(2, () -> x.solve());
        Due.state(() -> x.wayFits());
        x.member(0, false);
        Due.is(0, () -> x.solve());
        Due.is(1, () -> x.wayCount(2));
        DigHouse y = new DigHouse();
        y.context();
        y.curveDate(5, 5);
        y.dated(0, 0);
        Due.is(3, () -> y.solve());
        Due.no(() -> y.wayFits());
        DigHouse z = dated(3);
        z.layerRelate(1, 0, 0);
        z.layerRelate(0, 2, 0);
        for (int c = 0; c < 3; c++) {
            z.dated(c, c);
        }
        Due.is(0, () -> z.solve());
        Due.is(2, () -> z.wayCount(1));
    }

    private static void solvedTooOften() {
        DigHouse x = new DigHouse();
        for (int i = 0; i < 100; i++) {
            Due.is(0, () -> x.solve());
        }
        Due.state(() -> x.solve());
        Due.is(1, () -> x.wayTotal(0));
    }

    private static void finds() {
        DigHouse x = new DigHouse();
        Due.index(() -> x.find(0, 9, 9));
        x.context();
        Due.argument(() -> x.find(0, 4, 0));
        Due.argument(() -> x.find(0, -1, 0));
        Due.argument(() -> x.find(0, 0, 8));
        Due.argument(() -> x.find(0, 0, -2));
        for (int f = 0; f < 20; f++) {
            int find = f;
            Due.is(find, () -> x.find(0, find % 4, find % 9 - 1));
        }
        Due.state(() -> x.find(0, 0, 0));
        Due.argument(() -> x.find(0, 4, 0));
        Due.is(20, () -> x.had(0));
    }

    private static void objects() {
        DigHouse x = new DigHouse();
        x.context();
        for (int f = 0; f < 12; f++) {
            x.find(0, 0, -1);
        }
        Due.element(() -> x.object(12, 0, 0, 0, 0));
        Due.argument(() -> x.object(0, 0, 1, 1, 1));
        Due.argument(() -> x.object(0, 1, 10001, 1, 1));
        Due.argument(() -> x.object(0, 1, 1, -5, 1));
        Due.argument(() -> x.object(0, 1, 1, 1, 0));
        Due.argument(() -> x.object(0, 1, 1, 1, 1000001));
        Due.is(0, () -> x.had(1));
        Due.is(0, () -> x.object(3, 10000, 1, 1, 1000000));
        Due.is(-1, () -> x.object(3, 0, 0, 0, 0));
        for (int o = 1; o < 10; o++) {
            int object = o;
            Due.is(object, () -> x.object(object + 2 == 3 ? 0 : object + 2, 1, 1, 1, 1));
        }
        Due.is(-1, () -> x.object(3, 1, 1, 1, 1));
        Due.state(() -> x.object(1, 1, 1, 1, 1));
        Due.argument(() -> x.object(1, 0, 1, 1, 1));
        Due.is(10, () -> x.had(1));
        Due.is(10, () -> x.placeCount(1));
        Due.is(10, () -> x.methodCount(2));
        Due.is(10, () -> x.rightCount(4));
        Due.is(0, () -> x.light(0));
        Due.is(-1000000, () -> x.warm(0));
        Due.is(-1, () -> x.inRoom(0));
        Due.is(-1, () -> x.placeWhere(0, 0));
        Due.is(-1, () -> x.spare(0, 0));
        Due.element(() -> x.light(10));
    }

    private static void places() {
        DigHouse x = new DigHouse();
        Due.element(() -> x.place(0, 0));
        Due.element(() -> x.place(-2, 1));
        Due.argument(() -> x.place(-1, 0));
        Due.argument(() -> x.place(-1, 1000000001));
        for (int p = 0; p < 24; p++) {
            int place = p;
            Due.is(place, () -> x.place(place - 1, 1000000000));
        }
        Due.state(() -> x.place(-1, 1));
        Due.argument(() -> x.place(-1, 0));
        Due.element(() -> x.place(24, 1));
    }
}
