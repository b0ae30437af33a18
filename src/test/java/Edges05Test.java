import java.util.function.Supplier;

/** The edges of promise 5: save, cut, reopen; the calls of LAYERS up to layerContemporary. */
public final class Edges05Test {
    private static final int MAX = Integer.MAX_VALUE;

    public static void main(String[] args) {
        bounds();
        cuts();
        rowsLost();
        reopens();
        mostRows();
        rings();
        joinedRings();
        shortestRings();
        links();
        contemporaries();
        Due.end();
    }

    private static void bounds() {
        Supplier<DigHouse> house = () -> Houses.contexts(16);
        Supplier<DigHouse> told = () -> {
            DigHouse x = Houses.contexts(16);
            for (int r = 0; r < 200; r++) {
                int relation = r;
                Due.is(relation, () -> x.layerRelate(relation % 15, 15, relation % 5 == 3 ? 4 : relation % 5));
            }
            return x;
        };
        Bounds.of(house, "layerRelate", 3, 4, 1).index(0, 0, 15).index(1, 0, 15).index(2, 0, 4).hold().full(told);
        Bounds.of(told, "layerUndo", 7).index(0, 0, 199).hold();
        Bounds.of(house, "layerRing", 0).index(0, 0, MAX).hold();
        Bounds.of(house, "layerOrder", 3, 4).index(0, 0, 15).index(1, 0, 15).hold();
        Bounds.of(house, "layerContemporary", 3, 4).index(0, 0, 15).index(1, 0, 15).hold();
        Bounds.of(house, "layerEqual", 3).index(0, 0, 15).hold();
        Bounds.of(house, "layerLinks").hold();
        Bounds.of(() -> Houses.stack(16), "layerLink", 3, 1).index(0, 0, 14).index(1, 0, 1).hold();
        Bounds.of(() -> Houses.contexts(3), "cut", 44).argument(0, 0, 66).hold();
        Bounds.of(DigHouse::new, "cut", 0).argument(0, 0, 0).hold();
        Bounds.of(house, "save").hold();
        DigHouse none = Houses.contexts(1);
        Due.index(() -> none.layerLink(0, 0));
        Due.index(() -> none.layerUndo(0));
        Due.is(-1, () -> none.layerRing(0));
        Due.is(0, () -> none.layerLinks());
        // Undone relations were there all the same.
        DigHouse x = told.get();
        for (int r = 0; r < 200; r++) {
            int relation = r;
            Due.yes(() -> x.layerUndo(relation));
            Due.no(() -> x.layerUndo(relation));
        }
        Due.state(() -> x.layerRelate(0, 1, 0));
        Due.state(() -> x.layerRelate(0, 0, 0));
        Due.is(0, () -> x.layerCount(1));
    }

    /** Bytes up to 22 for each row that is not on the disk; a row is there with its last byte. */
    private static void cuts() {
        for (int bytes = 0; bytes <= 66; bytes++) {
            DigHouse x = Houses.contexts(2);
            x.save();
            for (int r = 0; r < 3; r++) {
                x.context();
            }
            int kept = bytes;
            Due.is(2 + bytes / 22, () -> x.cut(kept));
            Due.is(2 + bytes / 22, () -> x.reopen());
            Due.is(2 + bytes / 22, () -> x.layerCount(0));
            Due.is(2 + bytes / 22, () -> x.had(4));
            Due.is(2 + bytes / 22, () -> x.had(5));
        }
        DigHouse x = Houses.contexts(2);
        Due.argument(() -> x.cut(45));
        Due.argument(() -> x.cut(MAX));
        Due.argument(() -> x.cut(-1));
        Due.is(2, () -> x.save());
        Due.argument(() -> x.cut(1));
        Due.is(2, () -> x.cut(0));
        Due.state(() -> x.cut(-1));
        Due.is(2, () -> x.reopen());
    }

    /** What was told behind the rows on the disk is lost, whatever it was; what is told then comes behind them. */
    private static void rowsLost() {
        DigHouse x = Houses.contexts(3);
        x.layerRelate(0, 1, 0);
        x.save();
        x.layerRelate(1, 2, 0);
        Due.is(1, () -> x.layerOrder(0, 2));
        Due.is(4, () -> x.cut(21));
        x.reopen();
        Due.is(0, () -> x.layerOrder(0, 2));
        Due.is(1, () -> x.layerRelate(2, 1, 1));
        Due.is(5, () -> x.cut(22));
        x.reopen();
        Due.is(1, () -> x.layerOrder(2, 1));
        Due.is(5, () -> x.save());
    }

    /** A house is reopened three times, each time behind a cut. */
    private static void reopens() {
        DigHouse x = Houses.contexts(1);
        Due.state(() -> x.reopen());
        for (int i = 0; i < 3; i++) {
            x.cut(22 * (x.had(4) - x.had(5)));
            Due.is(1, () -> x.reopen());
            Due.state(() -> x.reopen());
        }
        x.cut(0);
        Due.state(() -> x.reopen());
        Due.state(() -> x.context());
        Due.state(() -> x.present());
        Due.state(() -> x.save());
        Due.state(() -> x.cut(0));
        // What is limited by how often it is called begins anew, too.
        DigHouse y = Houses.contexts(0);
        for (int i = 0; i < 40; i++) {
            y.draw(0);
        }
        Due.state(() -> y.draw(0));
        y.cut(22 * 39);
        Due.is(39, () -> y.reopen());
        Due.is(0, () -> y.draw(0));
        Due.state(() -> y.draw(0));
        DigHouse z = new DigHouse();
        for (int i = 0; i < 60; i++) {
            z.hour(0, 0);
        }
        z.cut(0);
        Due.is(0, () -> z.reopen());
        Due.is(0, () -> z.present());
        for (int i = 0; i < 60; i++) {
            Due.is(0, () -> z.hour(0, 0));
        }
        Due.state(() -> z.hour(0, 0));
    }

    /** 1500 rows, and the call behind them; they are all there again behind a cut. */
    private static void mostRows() {
        DigHouse x = Houses.contexts(1);
        for (int r = 1; r < 1500; r++) {
            x.hide(0, r % 2 == 1);
        }
        Due.is(1500, () -> x.had(4));
        Due.state(() -> x.hide(0, false));
        Due.state(() -> x.hide(1, false));
        Due.state(() -> x.phase(0, 9));
        Due.state(() -> x.context());
        Due.is(1, () -> x.layerCount(0));
        Due.is(0, () -> x.present());
        Due.is(1500, () -> x.save());
        Due.is(1500, () -> x.cut(0));
        Due.is(1500, () -> x.reopen());
        Due.state(() -> x.context());
        DigHouse y = Houses.contexts(1);
        for (int r = 1; r < 1499; r++) {
            y.hide(0, true);
        }
        Due.index(() -> y.hide(1, true));
        Due.no(() -> y.hide(0, true));
        Due.state(() -> y.hide(1, true));
    }

    private static void ring(DigHouse x, int... due) {
        for (int k = 0; k < due.length; k++) {
            int at = k;
            Due.is(due[k], () -> x.layerRing(at));
        }
        Due.is(-1, () -> x.layerRing(due.length));
        Due.is(-1, () -> x.layerRing(MAX));
        Due.index(() -> x.layerRing(-1));
    }

    /** A ring of one, of two, and of all sixteen; what was refused is no relation. */
    private static void rings() {
        DigHouse x = Houses.contexts(16);
        Due.is(-1, () -> x.layerRelate(15, 15, 0));
        ring(x, 15);
        Due.is(-1, () -> x.layerRelate(0, 0, 2));
        ring(x, 0);
        Due.is(0, () -> x.layerRelate(5, 5, 3));
        Due.is(1, () -> x.layerRelate(5, 5, 4));
        Due.is(2, () -> x.layerRelate(1, 0, 1));
        Due.is(-1, () -> x.layerRelate(0, 1, 0));
        ring(x, 0, 1);
        Due.is(3, () -> x.layerRelate(0, 1, 4));
        DigHouse y = Houses.stack(16);
        Due.is(-1, () -> y.layerRelate(15, 0, 0));
        ring(y, 15, 0, 1, 2, 3, 4, 5, 6, 7, 8, 9, 10, 11, 12, 13, 14);
        Due.is(15, () -> y.layerCount(1));
        Due.is(120, () -> y.layerCount(3));
        Due.is(-1, () -> y.layerRelate(15, 0, 3));
        ring(y, 0, 1, 2, 3, 4, 5, 6, 7, 8, 9, 10, 11, 12, 13, 14, 15);
        Due.is(-1, () -> y.layerRelate(0, 15, 3));
        ring(y, 0, 1, 2, 3, 4, 5, 6, 7, 8, 9, 10, 11, 12, 13, 14, 15);
        Due.is(-1, () -> y.layerRelate(8, 6, 1));
        ring(y, 8, 6, 7);
        Due.is(15, () -> y.layerRelate(0, 15, 2));
        Due.is(-1, () -> y.layerRelate(15, 0, 0));
        ring(y, 15, 0);
        // The ring that was told latest stays when relations come and go.
        Due.yes(() -> y.layerUndo(15));
        ring(y, 15, 0);
        Due.yes(() -> y.layerUndo(7));
        Due.is(0, () -> y.layerOrder(0, 15));
        Due.is(16, () -> y.layerRelate(15, 0, 0));
    }

    /** Rings go by the numbers of joined ones. */
    private static void joinedRings() {
        DigHouse x = Houses.contexts(6);
        x.layerRelate(5, 4, 3);
        x.layerRelate(4, 2, 3);
        Due.is(2, () -> x.layerEqual(5));
        x.layerRelate(4, 3, 0);
        Due.is(-1, () -> x.layerRelate(3, 5, 0));
        ring(x, 3, 2);
        Due.is(-1, () -> x.layerRelate(5, 2, 1));
        ring(x, 2);
        Due.is(3, () -> x.layerRelate(5, 2, 3));
        // Equal, and one over the other: from the upper one's number on.
        Due.is(-1, () -> x.layerRelate(3, 4, 3));
        ring(x, 2, 3);
        Due.yes(() -> x.layerUndo(1));
        Due.is(2, () -> x.layerEqual(5));
        Due.yes(() -> x.layerUndo(3));
        Due.is(4, () -> x.layerEqual(5));
        Due.is(2, () -> x.layerEqual(2));
        Due.is(1, () -> x.layerOrder(5, 3));
        Due.is(0, () -> x.layerOrder(2, 3));
    }

    /** Of rings that are as short, the one with the lower number where they differ first. */
    private static void shortestRings() {
        DigHouse x = Houses.contexts(8);
        x.layerRelate(0, 5, 0);
        x.layerRelate(5, 7, 0);
        x.layerRelate(0, 3, 0);
        x.layerRelate(3, 7, 0);
        x.layerRelate(0, 1, 0);
        x.layerRelate(1, 2, 0);
        x.layerRelate(2, 7, 0);
        Due.is(-1, () -> x.layerRelate(7, 0, 0));
        ring(x, 7, 0, 3);
        x.layerUndo(3);
        Due.is(-1, () -> x.layerRelate(7, 0, 0));
        ring(x, 7, 0, 5);
        x.layerUndo(1);
        Due.is(-1, () -> x.layerRelate(7, 0, 0));
        ring(x, 7, 0, 1, 2);
        x.layerUndo(6);
        Due.is(7, () -> x.layerRelate(7, 0, 0));
    }

    /** Links: none that another way tells, by the upper one's number, then the lower one's. */
    private static void links() {
        DigHouse x = Houses.contexts(16);
        x.layerRelate(15, 0, 0);
        x.layerRelate(15, 14, 0);
        x.layerRelate(14, 0, 0);
        x.layerRelate(2, 14, 0);
        x.layerRelate(2, 3, 0);
        int[][] due = {{2, 3}, {2, 14}, {14, 0}, {15, 14}};
        Due.is(4, () -> x.layerLinks());
        for (int k = 0; k < 4; k++) {
            int link = k;
            Due.is(due[k][0], () -> x.layerLink(link, 0));
            Due.is(due[k][1], () -> x.layerLink(link, 1));
        }
        Due.index(() -> x.layerLink(4, 0));
        // Each of eight over each of eight: 64 links.
        DigHouse y = Houses.contexts(16);
        for (int a = 0; a < 8; a++) {
            for (int b = 8; b < 16; b++) {
                y.layerRelate(a, b, a % 3);
            }
        }
        Due.is(64, () -> y.layerLinks());
        Due.is(7, () -> y.layerLink(63, 0));
        Due.is(15, () -> y.layerLink(63, 1));
        Due.is(0, () -> y.layerLink(0, 0));
        Due.is(8, () -> y.layerLink(0, 1));
        Due.index(() -> y.layerLink(64, 0));
    }

    private static void contemporaries() {
        DigHouse x = Houses.contexts(16);
        x.layerRelate(15, 3, 4);
        x.layerRelate(15, 0, 3);
        x.layerRelate(3, 9, 3);
        Due.yes(() -> x.layerContemporary(0, 9));
        Due.yes(() -> x.layerContemporary(9, 15));
        Due.yes(() -> x.layerContemporary(0, 15));
        Due.no(() -> x.layerContemporary(1, 15));
        Due.yes(() -> x.layerContemporary(1, 1));
        Due.is(0, () -> x.layerOrder(0, 9));
        Due.is(3, () -> x.layerRelate(0, 9, 0));
        Due.is(1, () -> x.layerOrder(15, 3));
        x.layerUndo(0);
        Due.no(() -> x.layerContemporary(0, 9));
    }
}
