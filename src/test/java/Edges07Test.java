import java.util.function.Supplier;

/** The edges of promise 7: sheetAt, sheetLinks, sheetLink, sheetCommand, sheetCount; curveRow up to curveWeight. */
public final class Edges07Test {
    private static final int MAX = Integer.MAX_VALUE;

    public static void main(String[] args) {
        sheetBounds();
        hiddenOnes();
        bends();
        commands();
        rowsByPhases();
        keys();
        curveBounds();
        editions();
        copies();
        weights();
        Due.end();
    }

    private static DigHouse drawn() {
        DigHouse x = Houses.stack(4);
        x.layerRelate(0, 3, 4);
        x.context();
        x.layerRelate(0, 4, 0);
        x.layerRelate(4, 3, 0);
        x.draw(0);
        return x;
    }

    private static void sheetBounds() {
        Supplier<DigHouse> house = Edges07Test::drawn;
        Bounds.of(house, "sheetAt", 3, 1).index(0, 0, 15).index(1, 0, 1).hold();
        Bounds.of(house, "sheetLinks").hold();
        // Links 0 to 1, 0 to 4, 1 to 2, 2 to 3, 4 to 3: the last one has one bend.
        Bounds.of(house, "sheetLink", 0, 2).index(0, 0, 4).index(1, 0, 2).hold();
        Bounds.of(house, "sheetLink", 4, 2).fixed(0).index(1, 0, 3).hold();
        Bounds.of(house, "sheetCommand", 3).index(0, -1, 5 * 4 + 4 * 6 + 8 - 1).hold();
        Bounds.of(house, "sheetCount", 3).index(0, 0, 4).hold();
        DigHouse x = drawn();
        Due.is(5, () -> x.sheetLinks());
        Due.is(52, () -> x.sheetCommand(-1));
        Due.is(1, () -> x.sheetLink(4, 2));
        Due.index(() -> x.sheetLink(3, 3));
        Due.index(() -> x.sheetLink(4, 4));
        Due.index(() -> x.sheetLink(5, 0));
    }

    /** One that is hidden is not drawn; what goes over it stays, over any others that are hidden, too. */
    private static void hiddenOnes() {
        DigHouse x = Houses.stack(16);
        for (int c = 1; c < 15; c++) {
            x.hide(c, true);
        }
        Due.is(0, () -> x.draw(0));
        Due.is(1, () -> x.sheetLinks());
        Due.is(0, () -> x.sheetLink(0, 0));
        Due.is(15, () -> x.sheetLink(0, 1));
        Due.is(0, () -> x.sheetLink(0, 2));
        Due.is(1, () -> x.sheetAt(15, 0));
        Due.is(-1, () -> x.sheetAt(14, 0));
        Due.is(-1, () -> x.sheetAt(1, 1));
        Due.is(2, () -> x.sheetCount(3));
        Due.is(16, () -> x.sheetCount(2));
        Due.is(15, () -> x.sheetCount(1));
        for (int c : new int[] {0, 15}) {
            x.hide(c, true);
        }
        Due.is(0, () -> x.draw(12));
        Due.is(0, () -> x.sheetLinks());
        Due.is(0, () -> x.sheetCount(3));
        Due.is(0, () -> x.sheetCommand(-1));
        // A joined one is hidden only with all of its contexts.
        DigHouse y = Houses.stack(2);
        y.context();
        y.layerRelate(2, 0, 3);
        y.hide(0, true);
        y.draw(0);
        Due.is(0, () -> y.sheetAt(2, 0));
        Due.is(0, () -> y.sheetAt(0, 0));
        y.hide(2, true);
        y.draw(0);
        Due.is(-1, () -> y.sheetAt(0, 0));
        Due.is(0, () -> y.sheetAt(1, 0));
    }

    /** A bend in each row between: none, one, and thirteen. */
    private static void bends() {
        DigHouse x = Houses.stack(15);
        x.context();
        x.layerRelate(0, 15, 0);
        x.layerRelate(15, 14, 0);
        Due.is(0, () -> x.draw(0));
        int last = x.sheetLinks() - 1;
        Due.is(15, () -> x.sheetLink(last, 0));
        Due.is(14, () -> x.sheetLink(last, 1));
        Due.is(12, () -> x.sheetLink(last, 2));
        for (int k = 0; k < 12; k++) {
            int bend = k;
            Due.is(1, () -> x.sheetLink(last, 3 + bend));
        }
        Due.index(() -> x.sheetLink(last, 15));
        Due.is(12, () -> x.sheetCount(4));
        Due.is(15, () -> x.sheetCount(3));
        Due.is(1, () -> x.sheetAt(15, 1));
        Due.is(0, () -> x.sheetAt(14, 1));
        x.layerRelate(13, 15, 0);
        Due.is(0, () -> x.draw(0));
        Due.is(0, () -> x.sheetCount(4));
        mostBends();
    }

    /** Just 150 bends are drawn, 151 are not: then counts, groups and misfits alone are told. */
    private static void mostBends() {
        DigHouse x = Houses.contexts(16);
        // Five of the first phase above five of the last one, and a stack of six between: six bends in each of 25 links.
        for (int a = 0; a < 5; a++) {
            x.phase(a, 0);
            x.phase(11 + a, 5);
            for (int b = 11; b < 16; b++) {
                x.layerRelate(a, b, 0);
            }
        }
        for (int c = 5; c < 11; c++) {
            x.phase(c, 1);
        }
        for (int c = 6; c < 11; c++) {
            x.layerRelate(c - 1, c, 0);
        }
        Due.is(100, () -> x.draw(0));
        Due.is(150, () -> x.sheetCount(4));
        Due.is(8, () -> x.sheetCount(3));
        Due.is(30, () -> x.sheetLinks());
        x.layerRelate(0, 6, 0);
        Due.is(-3, () -> x.draw(0));
        int[] due = {16, 31, 16, 0, 0};
        for (int what = 0; what < 5; what++) {
            int w = what;
            Due.is(due[w], () -> x.sheetCount(w));
        }
        Due.is(15, () -> x.sheetGroup(15));
        Due.is(-1, () -> x.sheetMisfit(0, 0));
        Due.state(() -> x.sheetLinks());
        Due.state(() -> x.sheetLink(0, 0));
        Due.state(() -> x.sheetAt(0, 0));
        Due.state(() -> x.sheetCommand(-1));
        Due.state(() -> x.sheetCrossings(0));
        Due.index(() -> x.sheetLink(-1, 0));
        Due.index(() -> x.sheetCommand(-2));
        Due.index(() -> x.sheetAt(16, 0));
        Due.index(() -> x.sheetCrossings(-1));
        // Sheets that were not drawn count among the forty.
        for (int d = 2; d < 40; d++) {
            Due.is(-3, () -> x.draw(12));
        }
        Due.state(() -> x.draw(12));
        Due.is(16, () -> x.sheetCount(0));
    }

    /** The drawing: groups by rows and places, each with a 1 ahead, then links with a 2 ahead. */
    private static void commands() {
        DigHouse x = drawn();
        // Rows: 0; 1 and 4; 2 and the bend of 4 to 3; 3.
        int[] due = {1, 0, 0, 0, 1, 1, 0, 16, 1, 4, 16, 16, 1, 2, 0, 32, 1, 3, 0, 48,
            2, 2, 0, 0, 0, 16, 2, 2, 0, 0, 16, 16, 2, 2, 0, 16, 0, 32, 2, 2, 0, 32, 0, 48, 2, 3, 16, 16, 16, 32, 0, 48};
        for (int i = 0; i < due.length; i++) {
            int at = i;
            Due.is(due[i], () -> x.sheetCommand(at));
        }
        Due.index(() -> x.sheetCommand(due.length));
        Due.index(() -> x.sheetCommand(-2));
        Due.index(() -> x.sheetCommand(MAX));
        DigHouse one = Houses.contexts(1);
        one.draw(0);
        Due.is(4, () -> one.sheetCommand(-1));
        Due.is(0, () -> one.sheetCommand(3));
        Due.index(() -> one.sheetCommand(4));
    }

    /** With a phase a group lies below all of lower phases, and of no others. */
    private static void rowsByPhases() {
        DigHouse x = Houses.contexts(7);
        for (int c = 0; c < 6; c++) {
            x.phase(c, 5 - c);
        }
        x.draw(0);
        for (int c = 0; c < 6; c++) {
            int context = c;
            Due.is(5 - c, () -> x.sheetAt(context, 0));
        }
        Due.is(0, () -> x.sheetAt(6, 0));
        x.phase(5, -1);
        x.phase(3, 1);
        x.draw(0);
        int[] due = {3, 2, 1, 0, 0, 0, 0};
        for (int c = 0; c < 7; c++) {
            int context = c;
            Due.is(due[c], () -> x.sheetAt(context, 0));
        }
        // A hidden one pushes none.
        x.hide(4, true);
        x.hide(3, true);
        x.draw(0);
        Due.is(0, () -> x.sheetAt(2, 0));
        Due.is(2, () -> x.sheetAt(0, 0));
    }

    /** Of equal keys as they were; without pieces by their own place. */
    private static void keys() {
        DigHouse x = Houses.contexts(6);
        x.layerRelate(0, 3, 0);
        x.layerRelate(1, 3, 0);
        x.layerRelate(0, 4, 0);
        x.layerRelate(1, 4, 0);
        x.layerRelate(2, 5, 0);
        Due.is(1, () -> x.draw(12));
        int[] due = {0, 1, 2, 0, 1, 2};
        for (int c = 0; c < 6; c++) {
            int context = c;
            Due.is(due[c], () -> x.sheetAt(context, 1));
        }
        for (int k = 0; k <= 12; k++) {
            int round = k;
            Due.is(1, () -> x.sheetCrossings(round));
        }
    }

    private static void curveBounds() {
        Supplier<DigHouse> house = () -> Houses.curve(0, 3);
        Supplier<DigHouse> all = () -> Houses.curve(0, 12);
        Supplier<DigHouse> editions = () -> {
            DigHouse x = Houses.curve(0, 1);
            for (int e = 1; e < 4; e++) {
                int edition = e;
                Due.is(edition, () -> x.curveEdition());
            }
            return x;
        };
        Bounds.of(house, "curveRow", 3, 4, 5).index(0, 0, 11).argument(1, 0, 3000).argument(2, 1, 100).hold();
        Bounds.of(house, "curveEdition").hold().full(editions);
        Bounds.of(editions, "curveUse", 2).index(0, 0, 3).hold();
        Bounds.of(DigHouse::new, "curveUse", 0).index(0, 0, 0).hold();
        Bounds.of(house, "curveReservoir", 3, 4).argument(0, -1000, 1000).argument(1, 0, 100).hold();
        Bounds.of(house, "curveDate", 3, 4).argument(0, 0, 3000).argument(1, 1, 100).hold().full(all);
        Bounds.of(all, "curveWeight", 3, 4).index(0, 0, 11).index(1, 0, 11).hold();
        DigHouse none = new DigHouse();
        Due.index(() -> none.curveWeight(0, 0));
    }

    /** A new edition is as that in use was; its rows change neither that one nor dates that were told. */
    private static void editions() {
        DigHouse x = new DigHouse();
        Due.no(() -> x.curveRow(0, 500, 10));
        Due.yes(() -> x.curveRow(0, 600, 10));
        Due.argument(() -> x.curveRow(0, 700, 101));
        Due.argument(() -> x.curveRow(0, 3001, 20));
        Due.argument(() -> x.curveRow(0, 700, 0));
        Due.no(() -> x.curveRow(11, 700, 10));
        x.curveDate(600, 10);
        Due.is(1, () -> x.curveEdition());
        Due.is(2, () -> x.curveCount(6));
        Due.yes(() -> x.curveRow(0, 800, 10));
        Due.no(() -> x.curveRow(5, 900, 10));
        Due.is(999, () -> x.curveWeight(0, 0));
        x.curveDate(800, 10);
        Due.is(999, () -> x.curveWeight(1, 0));
        Due.is(1, () -> x.curveUse(0));
        Due.is(2, () -> x.curveCount(6));
        x.curveDate(600, 10);
        Due.is(999, () -> x.curveWeight(2, 0));
        Due.is(2, () -> x.curveEdition());
        Due.is(2, () -> x.curveCount(6));
        Due.is(2, () -> x.curveUse(1));
        Due.is(3, () -> x.curveCount(6));
        Due.is(3, () -> x.curveEdition());
        Due.is(3, () -> x.curveCount(6));
        Due.state(() -> x.curveEdition());
        Due.is(3, () -> x.curveUse(3));
        Due.is(3, () -> x.curveUse(0));
        Due.is(0, () -> x.curveCount(2));
    }

    /** A new edition has all rows of that in use, with their ages and spreads, whichever is in use. */
    private static void copies() {
        DigHouse x = new DigHouse();
        x.curveRow(0, 500, 7);
        x.curveRow(11, 3000, 100);
        x.curveEdition();
        x.curveRow(11, 2000, 50);
        x.curveEdition();
        x.curveUse(1);
        x.curveRow(5, 100, 1);
        x.curveEdition();
        int[][] due = {{0, 500, 7}, {5, 100, 1}, {11, 2000, 50}};
        for (int[] row : due) {
            int date = x.curveDate(row[1], row[2]);
            Due.is(999, () -> x.curveWeight(date, row[0]));
            int other = x.curveDate(row[1] + 3, 9);
            Due.is(bell(row[1] + 3, 9, 0, 0, row[1], row[2]), () -> x.curveWeight(other, row[0]));
        }
        x.curveUse(2);
        Due.is(2, () -> x.curveCount(6));
        int last = x.curveDate(2000, 60);
        Due.is(999, () -> x.curveWeight(last, 11));
        Due.is(0, () -> x.curveWeight(last, 5));
        x.curveUse(0);
        int first = x.curveDate(3000, 60);
        Due.is(999, () -> x.curveWeight(first, 11));
    }

    /** 999 times S squared by the square of S and D, at the ends of ages, spreads and reservoirs. */
    private static void weights() {
        int[] rowAges = {0, 1, 1500, 3000};
        int[] rowSpreads = {1, 2, 99, 100};
        int[][] dates = {{0, 1}, {3000, 100}, {1500, 1}, {1500, 100}, {1499, 50}, {2999, 99}};
        int[][] reservoirs = {{0, 0}, {-1000, 0}, {1000, 100}, {-1, 1}, {1, 99}};
        for (int[] reservoir : reservoirs) {
            DigHouse x = new DigHouse();
            for (int i = 0; i < 4; i++) {
                x.curveRow(3 * i, rowAges[i], rowSpreads[i]);
            }
            x.curveReservoir(reservoir[0], reservoir[1]);
            for (int d = 0; d < dates.length; d++) {
                x.curveDate(dates[d][0], dates[d][1]);
                for (int i = 0; i < 4; i++) {
                    int date = d;
                    int year = 3 * i;
                    long due = bell(dates[d][0], dates[d][1], reservoir[0], reservoir[1], rowAges[i], rowSpreads[i]);
                    Due.is(due, () -> x.curveWeight(date, year));
                    Due.is(0, () -> x.curveWeight(date, year + 1));
                }
            }
        }
        // The reservoir that is told later does not change dates; one of no spread may still have an age.
        DigHouse x = new DigHouse();
        x.curveRow(0, 500, 10);
        x.curveDate(500, 10);
        x.curveReservoir(100, 0);
        Due.argument(() -> x.curveReservoir(200, 101));
        Due.argument(() -> x.curveReservoir(200, -1));
        Due.argument(() -> x.curveReservoir(1001, 50));
        Due.argument(() -> x.curveReservoir(-1001, 50));
        x.curveDate(600, 10);
        Due.is(999, () -> x.curveWeight(0, 0));
        Due.is(999, () -> x.curveWeight(1, 0));
        x.curveReservoir(0, 0);
        x.curveDate(600, 10);
        Due.is(0, () -> x.curveWeight(2, 0));
    }

    static long bell(long age, long spread, long r, long t, long rowAge, long rowSpread) {
        long s = spread * spread + t * t + rowSpread * rowSpread;
        long d = (age - r - rowAge) * (age - r - rowAge);
        return 999 * s * s / ((s + d) * (s + d));
    }
}
