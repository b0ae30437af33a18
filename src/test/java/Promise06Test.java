/** layerLongest, layerGroup, layerInto, layerGroupRing, layerGroupOf, layerVersion, layerDiffers, layerCount; sheetGroup, sheetMisfit, sheetCrossings. */
public final class Promise06Test {
    public static void main(String[] args) {
        longest();
        groups();
        laterRings();
        versions();
        sheets();
        Due.end();
    }

    private static DigHouse house(int contexts) {
        DigHouse x = new DigHouse();
        for (int c = 0; c < contexts; c++) {
            x.context();
        }
        return x;
    }

    private static void longest() {
        DigHouse x = house(5);
        x.layerRelate(0, 1, 0);
        x.layerRelate(1, 3, 0);
        x.layerRelate(2, 3, 0);
        x.layerRelate(0, 3, 0);
        Due.is(0, () -> x.layerLongest(0));
        Due.is(2, () -> x.layerLongest(3));
        Due.is(0, () -> x.layerLongest(4));
        x.layerRelate(4, 3, 3);
        Due.is(2, () -> x.layerLongest(4));
        Due.index(() -> x.layerLongest(5));
        Due.index(() -> x.layerLongest(-1));
        int[] counts = {5, 5, 4, 4, 0};
        for (int what = 0; what < 5; what++) {
            int w = what;
            Due.is(counts[what], () -> x.layerCount(w));
        }
        x.layerUndo(4);
        Due.is(4, () -> x.layerCount(1));
        Due.is(5, () -> x.layerCount(2));
        Due.index(() -> x.layerCount(5));
        Due.index(() -> x.layerCount(-1));
    }

    private static void groups() {
        DigHouse x = house(6);
        Due.index(() -> x.layerInto(0, 0));
        for (int g = 0; g < 12; g++) {
            int group = g;
            Due.is(group, () -> x.layerGroup());
        }
        Due.state(() -> x.layerGroup());
        Due.is(12, () -> x.layerCount(4));
        Due.index(() -> x.layerInto(12, 0));
        Due.index(() -> x.layerInto(0, 6));
        Due.index(() -> x.layerGroupRing(-1));
        Due.is(-1, () -> x.layerGroupRing(0));
        Due.is(-1, () -> x.layerGroupOf(3));
        Due.index(() -> x.layerGroupOf(6));
        x.layerRelate(0, 1, 0);
        x.layerRelate(1, 2, 0);
        Due.yes(() -> x.layerInto(4, 0));
        Due.yes(() -> x.layerInto(2, 1));
        Due.no(() -> x.layerInto(4, 2));
        Due.is(-1, () -> x.layerGroupOf(2));
        Due.is(4, () -> x.layerGroupRing(0));
        Due.is(2, () -> x.layerGroupRing(1));
        Due.is(-1, () -> x.layerGroupRing(2));
        Due.yes(() -> x.layerInto(2, 2));
        Due.yes(() -> x.layerInto(2, 2));
        Due.yes(() -> x.layerInto(4, 1));
        Due.is(4, () -> x.layerGroupOf(1));
        Due.is(4, () -> x.layerGroupRing(0));
    }

    /** Relations that are told later may make a ring of groups; it bars only what lies in it. */
    private static void laterRings() {
        DigHouse x = house(5);
        x.layerGroup();
        x.layerGroup();
        x.layerGroup();
        x.layerInto(0, 0);
        x.layerInto(1, 1);
        x.layerInto(0, 2);
        x.layerInto(1, 3);
        Due.is(0, () -> x.layerRelate(0, 1, 0));
        Due.is(1, () -> x.layerRelate(3, 2, 0));
        Due.no(() -> x.layerInto(1, 1));
        Due.is(1, () -> x.layerGroupRing(0));
        Due.is(0, () -> x.layerGroupRing(1));
        Due.no(() -> x.layerInto(0, 4));
        Due.is(0, () -> x.layerGroupRing(0));
        Due.yes(() -> x.layerInto(2, 4));
        x.layerUndo(1);
        Due.yes(() -> x.layerInto(0, 4));
        x.layerRelate(0, 3, 3);
        Due.is(1, () -> x.layerGroupOf(3));
    }

    private static void versions() {
        DigHouse x = house(4);
        Due.index(() -> x.layerDiffers(0, 0, 0));
        x.layerRelate(0, 1, 0);
        Due.is(0, () -> x.layerVersion());
        Due.is(1, () -> x.layerVersion());
        Due.is(-1, () -> x.layerDiffers(0, 1, 0));
        x.layerRelate(1, 2, 0);
        Due.is(2, () -> x.layerVersion());
        int[] first = {0, 1, 2, -1};
        for (int k = 0; k < 4; k++) {
            int at = k;
            Due.is(first[k], () -> x.layerDiffers(1, 2, at));
            Due.is(first[k], () -> x.layerDiffers(2, 0, at));
        }
        x.layerRelate(2, 3, 3);
        Due.is(3, () -> x.layerVersion());
        for (int k = 0; k < 4; k++) {
            int at = k;
            int due = k == 2 ? 3 : k == 3 ? -1 : k;
            Due.is(due, () -> x.layerDiffers(2, 3, at));
        }
        x.context();
        Due.is(4, () -> x.layerVersion());
        Due.is(4, () -> x.layerDiffers(3, 4, 0));
        Due.is(-1, () -> x.layerDiffers(4, 3, 1));
        x.layerRelate(4, 0, 0);
        for (int v = 5; v < 8; v++) {
            int version = v;
            Due.is(version, () -> x.layerVersion());
        }
        Due.state(() -> x.layerVersion());
        Due.is(0, () -> x.layerDiffers(3, 5, 0));
        Due.index(() -> x.layerDiffers(0, 8, 0));
        Due.index(() -> x.layerDiffers(-1, 0, 0));
        Due.index(() -> x.layerDiffers(0, 0, -1));
        DigHouse y = house(1);
        y.layerVersion();
        y.context();
        y.layerRelate(0, 1, 3);
        y.layerVersion();
        Due.is(1, () -> y.layerDiffers(0, 1, 0));
        Due.is(-1, () -> y.layerDiffers(0, 1, 1));
    }

    private static void sheets() {
        DigHouse x = house(4);
        Due.state(() -> x.sheetGroup(99));
        Due.state(() -> x.sheetMisfit(-1, 0));
        Due.state(() -> x.sheetCrossings(-1));
        x.layerRelate(0, 2, 0);
        x.layerRelate(0, 3, 0);
        x.layerRelate(1, 3, 0);
        x.phase(0, 3);
        x.phase(2, 1);
        x.phase(3, 2);
        x.hide(2, true);
        Due.is(-2, () -> x.draw(4));
        int[][] misfits = {{0, 2}, {0, 3}, {-1, -1}};
        for (int k = 0; k < 3; k++) {
            int at = k;
            Due.is(misfits[k][0], () -> x.sheetMisfit(at, 0));
            Due.is(misfits[k][1], () -> x.sheetMisfit(at, 1));
        }
        Due.is(-1, () -> x.sheetMisfit(1000, 0));
        Due.index(() -> x.sheetMisfit(-1, 0));
        Due.index(() -> x.sheetMisfit(0, 2));
        Due.state(() -> x.sheetCrossings(0));
        Due.state(() -> x.sheetCrossings(99));
        Due.index(() -> x.sheetCrossings(-1));
        x.phase(0, -1);
        x.phase(2, -1);
        x.phase(3, -1);
        x.hide(2, false);
        x.layerUndo(2);
        x.layerRelate(1, 2, 0);
        x.layerUndo(0);
        Due.is(0, () -> x.draw(2));
        Due.is(1, () -> x.sheetCrossings(0));
        Due.is(0, () -> x.sheetCrossings(1));
        Due.is(0, () -> x.sheetCrossings(2));
        Due.index(() -> x.sheetCrossings(3));
        Due.is(-1, () -> x.sheetMisfit(0, 0));
        x.layerRelate(3, 0, 4);
        x.layerRelate(2, 3, 3);
        Due.is(3, () -> x.sheetGroup(3));
        x.draw(0);
        Due.is(2, () -> x.sheetGroup(3));
        Due.is(15, () -> x.sheetGroup(15));
        Due.index(() -> x.sheetGroup(16));
        Due.index(() -> x.sheetCrossings(1));
    }
}
