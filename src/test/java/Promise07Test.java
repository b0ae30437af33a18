/** sheetAt, sheetLinks, sheetLink, sheetCommand, sheetCount; curveRow, curveEdition, curveUse, curveReservoir, curveDate, curveWeight. */
public final class Promise07Test {
    public static void main(String[] args) {
        sheet();
        hidden();
        phases();
        sixteenRows();
        rows();
        reservoirs();
        editions();
        mostDates();
        Due.end();
    }

    private static void commands(DigHouse x, int... due) {
        Due.is(due.length, () -> x.sheetCommand(-1));
        for (int i = 0; i < due.length; i++) {
            int at = i;
            Due.is(due[i], () -> x.sheetCommand(at));
        }
        Due.index(() -> x.sheetCommand(due.length));
        Due.index(() -> x.sheetCommand(-2));
    }

    /** A long link behind a row of two: its bend stands behind the group. */
    private static void sheet() {
        DigHouse x = new DigHouse();
        Due.state(() -> x.sheetAt(-1, 0));
        Due.state(() -> x.sheetLinks());
        Due.state(() -> x.sheetLink(-1, 0));
        Due.state(() -> x.sheetCommand(-9));
        Due.state(() -> x.sheetCount(-1));
        for (int c = 0; c < 5; c++) {
            x.context();
        }
        x.layerRelate(0, 1, 0);
        x.layerRelate(1, 2, 0);
        x.layerRelate(3, 2, 0);
        x.layerRelate(0, 4, 3);
        Due.is(0, () -> x.draw(0));
        Due.is(3, () -> x.sheetLinks());
        int[][] at = {{0, 0}, {1, 0}, {2, 0}, {0, 1}, {0, 0}};
        for (int c = 0; c < 5; c++) {
            int context = c;
            Due.is(at[c][0], () -> x.sheetAt(context, 0));
            Due.is(at[c][1], () -> x.sheetAt(context, 1));
        }
        Due.is(-1, () -> x.sheetAt(5, 0));
        Due.is(-1, () -> x.sheetAt(15, 1));
        Due.index(() -> x.sheetAt(16, 0));
        Due.index(() -> x.sheetAt(0, 2));
        Due.index(() -> x.sheetAt(0, -1));
        int[][] links = {{0, 1, 0}, {1, 2, 0}, {3, 2, 1, 1}};
        for (int k = 0; k < 3; k++) {
            for (int what = 0; what < links[k].length; what++) {
                int link = k;
                int w = what;
                Due.is(links[k][what], () -> x.sheetLink(link, w));
            }
        }
        Due.index(() -> x.sheetLink(2, 4));
        Due.index(() -> x.sheetLink(0, 3));
        Due.index(() -> x.sheetLink(3, 0));
        Due.index(() -> x.sheetLink(-1, 0));
        Due.index(() -> x.sheetLink(0, -1));
        commands(x, 1, 0, 0, 0, 1, 3, 16, 0, 1, 1, 0, 16, 1, 2, 0, 32, 2, 2, 0, 0, 0, 16, 2, 2, 0, 16, 0, 32, 2, 3, 16, 0, 16, 16, 0, 32);
        int[] counts = {5, 3, 4, 3, 1};
        for (int what = 0; what < 5; what++) {
            int w = what;
            Due.is(counts[what], () -> x.sheetCount(w));
        }
        Due.index(() -> x.sheetCount(5));
        Due.index(() -> x.sheetCount(-1));
        x.hide(0, true);
        x.layerUndo(0);
        Due.is(3, () -> x.sheetLinks());
        Due.is(0, () -> x.sheetAt(4, 0));
    }

    /** What goes over hidden ones is kept; a group is hidden only if all its contexts are. */
    private static void hidden() {
        DigHouse x = new DigHouse();
        for (int c = 0; c < 5; c++) {
            x.context();
        }
        for (int c = 0; c < 3; c++) {
            x.layerRelate(c, c + 1, 0);
        }
        x.layerRelate(1, 4, 3);
        x.hide(1, true);
        x.draw(0);
        Due.is(3, () -> x.sheetLinks());
        Due.is(1, () -> x.sheetAt(1, 0));
        x.hide(4, true);
        x.hide(2, true);
        x.draw(0);
        Due.is(1, () -> x.sheetLinks());
        Due.is(3, () -> x.sheetLink(0, 1));
        Due.is(-1, () -> x.sheetAt(4, 0));
        Due.is(-1, () -> x.sheetAt(2, 1));
        Due.is(3, () -> x.sheetCount(1));
        Due.is(4, () -> x.sheetCount(2));
        Due.is(2, () -> x.sheetCount(3));
        for (int c = 0; c < 5; c++) {
            x.hide(c, true);
        }
        Due.is(0, () -> x.draw(3));
        Due.is(0, () -> x.sheetLinks());
        Due.is(0, () -> x.sheetCommand(-1));
        Due.is(0, () -> x.sheetCount(3));
        Due.is(0, () -> x.sheetCrossings(3));
    }

    /** Phases are bands: a later one lies below all of the earlier ones. */
    private static void phases() {
        DigHouse x = new DigHouse();
        for (int c = 0; c < 5; c++) {
            x.context();
        }
        x.layerRelate(0, 1, 0);
        x.phase(1, 2);
        x.phase(2, 3);
        x.phase(3, 2);
        x.draw(0);
        int[] rows = {0, 1, 2, 0, 0};
        for (int c = 0; c < 5; c++) {
            int context = c;
            Due.is(rows[c], () -> x.sheetAt(context, 0));
        }
    }

    private static void sixteenRows() {
        DigHouse x = new DigHouse();
        for (int c = 0; c < 16; c++) {
            x.context();
        }
        for (int c = 15; c > 0; c--) {
            x.layerRelate(c, c - 1, 0);
        }
        Due.is(0, () -> x.draw(1));
        Due.is(16, () -> x.sheetCount(3));
        Due.is(15, () -> x.sheetAt(0, 0));
        Due.is(16 * 4 + 15 * 6, () -> x.sheetCommand(-1));
        Due.is(240, () -> x.sheetCommand(63));
    }

    private static void rows() {
        DigHouse x = new DigHouse();
        Due.index(() -> x.curveRow(12, -1, 0));
        Due.index(() -> x.curveRow(-1, 0, 1));
        Due.argument(() -> x.curveRow(0, -1, 1));
        Due.argument(() -> x.curveRow(0, 3001, 1));
        Due.argument(() -> x.curveRow(0, 0, 0));
        Due.argument(() -> x.curveRow(0, 0, 101));
        Due.no(() -> x.curveRow(11, 3000, 100));
        Due.yes(() -> x.curveRow(11, 0, 1));
        Due.is(1, () -> x.curveCount(6));
        Due.argument(() -> x.curveDate(-1, 1));
        Due.argument(() -> x.curveDate(3001, 1));
        Due.argument(() -> x.curveDate(0, 0));
        Due.argument(() -> x.curveDate(0, 101));
        x.curveRow(4, 3000, 3);
        Due.is(0, () -> x.curveDate(3000, 4));
        Due.is(999, () -> x.curveWeight(0, 4));
        Due.is(0, () -> x.curveWeight(0, 11));
        Due.is(1, () -> x.curveDate(2997, 4));
        Due.is(999 * 25 * 25 / (34 * 34), () -> x.curveWeight(1, 4));
        x.curveRow(4, 2997, 3);
        Due.is(999 * 25 * 25 / (34 * 34), () -> x.curveWeight(1, 4));
        Due.index(() -> x.curveWeight(2, 0));
        Due.index(() -> x.curveWeight(-1, 0));
        Due.index(() -> x.curveWeight(0, 12));
        Due.index(() -> x.curveWeight(0, -1));
    }

    private static void reservoirs() {
        DigHouse x = new DigHouse();
        x.curveRow(0, 500, 6);
        Due.argument(() -> x.curveReservoir(-1001, 0));
        Due.argument(() -> x.curveReservoir(1001, 0));
        Due.argument(() -> x.curveReservoir(0, -1));
        Due.argument(() -> x.curveReservoir(0, 101));
        x.curveDate(507, 8);
        x.curveReservoir(1000, 100);
        x.curveReservoir(-5, 2);
        x.curveDate(507, 8);
        long s = 64 + 36;
        Due.is(999 * s * s / ((s + 49) * (s + 49)), () -> x.curveWeight(0, 0));
        long t = 64 + 4 + 36;
        Due.is(999 * t * t / ((t + 144) * (t + 144)), () -> x.curveWeight(1, 0));
    }

    private static void editions() {
        DigHouse x = new DigHouse();
        x.curveRow(0, 100, 10);
        Due.index(() -> x.curveUse(1));
        Due.index(() -> x.curveUse(-1));
        Due.is(1, () -> x.curveEdition());
        Due.is(1, () -> x.curveCount(2));
        Due.yes(() -> x.curveRow(0, 200, 10));
        Due.no(() -> x.curveRow(1, 200, 10));
        x.curveDate(200, 10);
        Due.is(1, () -> x.curveUse(0));
        Due.is(1, () -> x.curveCount(6));
        x.curveDate(200, 10);
        Due.is(999, () -> x.curveWeight(0, 0));
        Due.is(999, () -> x.curveWeight(0, 1));
        Due.is(0, () -> x.curveWeight(1, 1));
        Due.is(999 * 200 * 200 / (10200L * 10200), () -> x.curveWeight(1, 0));
        Due.is(2, () -> x.curveEdition());
        Due.is(3, () -> x.curveEdition());
        Due.state(() -> x.curveEdition());
        Due.is(1, () -> x.curveCount(6));
        Due.is(4, () -> x.curveCount(1));
    }

    private static void mostDates() {
        DigHouse x = new DigHouse();
        for (int d = 0; d < 12; d++) {
            int date = d;
            Due.is(date, () -> x.curveDate(100, 10));
        }
        Due.state(() -> x.curveDate(100, 10));
        Due.argument(() -> x.curveDate(100, 0));
        Due.is(12, () -> x.curveCount(3));
    }
}
