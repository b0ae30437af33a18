import java.util.function.Supplier;

/** The edges of promise 6: the calls of LAYERS from layerLongest on, sheetGroup, sheetMisfit, sheetCrossings. */
public final class Edges06Test {
    private static final int MAX = Integer.MAX_VALUE;

    public static void main(String[] args) {
        bounds();
        longest();
        groups();
        groupRings();
        versions();
        counts();
        beforeASheet();
        sheets();
        misfits();
        crossings();
        Due.end();
    }

    private static DigHouse groups(int count) {
        DigHouse x = Houses.contexts(16);
        for (int g = 0; g < count; g++) {
            x.layerGroup();
        }
        return x;
    }

    private static DigHouse versions(int count) {
        DigHouse x = Houses.contexts(1);
        for (int v = 0; v < count; v++) {
            x.layerVersion();
        }
        return x;
    }

    private static DigHouse drawn(int rounds) {
        DigHouse x = Houses.stack(3);
        x.draw(rounds);
        return x;
    }

    private static void bounds() {
        Bounds.of(() -> Houses.contexts(16), "layerLongest", 3).index(0, 0, 15).hold();
        Bounds.of(() -> groups(11), "layerGroup").hold().full(() -> groups(12));
        Bounds.of(() -> groups(12), "layerInto", 3, 4).index(0, 0, 11).index(1, 0, 15).hold();
        Bounds.of(() -> groups(12), "layerGroupRing", 0).index(0, 0, MAX).hold();
        Bounds.of(() -> groups(12), "layerGroupOf", 3).index(0, 0, 15).hold();
        Bounds.of(() -> versions(7), "layerVersion").hold().full(() -> versions(8));
        Bounds.of(() -> versions(8), "layerDiffers", 3, 4, 5).index(0, 0, 7).index(1, 0, 7).index(2, 0, MAX).hold();
        Bounds.of(() -> groups(12), "layerCount", 3).index(0, 0, 4).hold();
        Bounds.of(() -> drawn(3), "sheetGroup", 3).index(0, 0, 15).hold();
        Bounds.of(() -> drawn(3), "sheetMisfit", 3, 0).index(0, 0, MAX).index(1, 0, 1).hold();
        Bounds.of(() -> drawn(12), "sheetCrossings", 3).index(0, 0, 12).hold();
        Bounds.of(() -> drawn(0), "sheetCrossings", 0).index(0, 0, 0).hold();
        DigHouse none = new DigHouse();
        Due.index(() -> none.layerInto(0, 0));
        Due.index(() -> none.layerLongest(0));
        Due.index(() -> none.layerGroupOf(0));
        Due.index(() -> none.layerDiffers(0, 0, 0));
        Due.is(-1, () -> none.layerGroupRing(0));
    }

    private static void longest() {
        DigHouse x = Houses.stack(16);
        for (int c = 0; c < 16; c++) {
            int context = c;
            Due.is(context, () -> x.layerLongest(context));
        }
        DigHouse y = Houses.contexts(16);
        y.layerRelate(3, 4, 0);
        y.layerRelate(5, 4, 0);
        y.layerRelate(4, 0, 0);
        y.layerRelate(3, 0, 0);
        y.layerRelate(15, 0, 3);
        Due.is(2, () -> y.layerLongest(15));
        Due.is(1, () -> y.layerLongest(4));
        Due.is(0, () -> y.layerLongest(5));
    }

    /** A context is in one group at most: where it came latest. */
    private static void groups() {
        DigHouse x = groups(12);
        Due.is(-1, () -> x.layerGroupOf(15));
        Due.yes(() -> x.layerInto(11, 15));
        Due.is(11, () -> x.layerGroupOf(15));
        Due.yes(() -> x.layerInto(11, 15));
        Due.yes(() -> x.layerInto(0, 15));
        Due.is(0, () -> x.layerGroupOf(15));
        Due.index(() -> x.layerInto(12, 15));
        Due.is(0, () -> x.layerGroupOf(15));
    }

    private static void groupRing(DigHouse x, int... due) {
        for (int k = 0; k < due.length; k++) {
            int at = k;
            Due.is(due[k], () -> x.layerGroupRing(at));
        }
        Due.is(-1, () -> x.layerGroupRing(due.length));
        Due.is(-1, () -> x.layerGroupRing(MAX));
    }

    /** Rings of two groups and of all twelve; one that has not the group in it does not matter. */
    private static void groupRings() {
        DigHouse x = groups(12);
        for (int c = 1; c < 13; c++) {
            x.layerRelate(c - 1, c, 0);
        }
        for (int g = 0; g < 12; g++) {
            int group = g;
            Due.yes(() -> x.layerInto(group, group));
        }
        Due.no(() -> x.layerInto(0, 12));
        groupRing(x, 0, 1);
        Due.is(-1, () -> x.layerGroupOf(12));
        // Contexts that are over all others make the shortest ones; with each over the next alone it takes all groups.
        DigHouse y = groups(12);
        for (int g = 0; g < 12; g++) {
            y.layerInto(g, g);
        }
        y.layerRelate(0, 1, 0);
        Due.yes(() -> y.layerInto(1, 12));
        y.layerRelate(12, 2, 0);
        Due.yes(() -> y.layerInto(0, 10));
        y.layerRelate(13, 10, 0);
        y.layerRelate(14, 3, 0);
        y.layerInto(2, 14);
        Due.no(() -> y.layerInto(3, 13));
        groupRing(y, 3, 0, 1, 2);
        Due.is(-1, () -> y.layerGroupOf(13));
        Due.yes(() -> y.layerInto(4, 13));
        // Told later, a relation makes a ring: it bars its own groups, not others; groups stay.
        Due.is(4, () -> y.layerRelate(3, 15, 0));
        Due.is(5, () -> y.layerRelate(15, 13, 0));
        Due.is(4, () -> y.layerGroupOf(13));
        Due.no(() -> y.layerInto(4, 9));
        groupRing(y, 4, 0, 1, 2);
        Due.is(9, () -> y.layerGroupOf(9));
        Due.yes(() -> y.layerInto(8, 9));
        Due.yes(() -> y.layerUndo(5));
        Due.is(4, () -> y.layerGroupOf(13));
        Due.yes(() -> y.layerInto(4, 9));
        Due.no(() -> y.layerInto(3, 13));
        groupRing(y, 3, 0, 1, 2);
    }

    private static void differ(DigHouse x, int one, int other, int... due) {
        for (int k = 0; k < due.length; k++) {
            int at = k;
            Due.is(due[k], () -> x.layerDiffers(one, other, at));
            Due.is(due[k], () -> x.layerDiffers(other, one, at));
        }
        Due.is(-1, () -> x.layerDiffers(one, other, due.length));
        Due.is(-1, () -> x.layerDiffers(one, other, MAX));
    }

    private static void versions() {
        DigHouse x = Houses.contexts(14);
        x.layerVersion();
        differ(x, 0, 0);
        x.context();
        x.context();
        x.layerVersion();
        differ(x, 0, 1, 14, 15);
        x.layerRelate(15, 0, 0);
        x.layerVersion();
        differ(x, 0, 2, 0, 14, 15);
        differ(x, 1, 2, 0, 15);
        x.layerRelate(0, 7, 3);
        x.layerVersion();
        differ(x, 2, 3, 7, 15);
        x.layerRelate(7, 8, 4);
        x.layerVersion();
        differ(x, 3, 4);
        x.layerUndo(0);
        x.layerVersion();
        differ(x, 4, 5, 0, 7, 15);
        x.layerUndo(1);
        x.layerVersion();
        differ(x, 1, 6);
        x.layerVersion();
        Due.state(() -> x.layerVersion());
        differ(x, 0, 7, 14, 15);
        Due.index(() -> x.layerDiffers(0, 8, 0));
        Due.index(() -> x.layerDiffers(8, 0, 0));
        // Joined, with nothing over them or under them: the number alone is another one.
        DigHouse joined = Houses.contexts(3);
        joined.layerVersion();
        joined.layerRelate(2, 1, 3);
        joined.layerVersion();
        differ(joined, 0, 1, 2);
        DigHouse all = Houses.contexts(0);
        all.layerVersion();
        for (int c = 0; c < 16; c++) {
            all.context();
        }
        all.layerVersion();
        differ(all, 0, 1, 0, 1, 2, 3, 4, 5, 6, 7, 8, 9, 10, 11, 12, 13, 14, 15);
    }

    private static void counts() {
        DigHouse x = groups(2);
        x.layerRelate(0, 1, 0);
        x.layerRelate(1, 2, 0);
        x.layerRelate(0, 2, 0);
        x.layerRelate(3, 2, 3);
        x.layerRelate(15, 14, 4);
        int[] due = {16, 5, 15, 3, 2};
        for (int what = 0; what < 5; what++) {
            int w = what;
            Due.is(due[w], () -> x.layerCount(w));
        }
        x.layerUndo(3);
        x.layerUndo(1);
        int[] then = {16, 3, 16, 2, 2};
        for (int what = 0; what < 5; what++) {
            int w = what;
            Due.is(then[w], () -> x.layerCount(w));
        }
    }

    /** Ahead of the first sheet the state is told ahead of all others. */
    private static void beforeASheet() {
        DigHouse x = Houses.stack(3);
        for (int bad : new int[] {-2, -1, 0, 1, 16, Integer.MIN_VALUE, MAX}) {
            Due.state(() -> x.sheetGroup(bad));
            Due.state(() -> x.sheetMisfit(bad, 0));
            Due.state(() -> x.sheetMisfit(0, bad));
            Due.state(() -> x.sheetCrossings(bad));
            Due.state(() -> x.sheetAt(bad, 0));
            Due.state(() -> x.sheetAt(0, bad));
            Due.state(() -> x.sheetLink(bad, 0));
            Due.state(() -> x.sheetLink(0, bad));
            Due.state(() -> x.sheetCommand(bad));
            Due.state(() -> x.sheetCount(bad));
        }
        Due.state(() -> x.sheetLinks());
        // A refused draw is none.
        Due.argument(() -> x.draw(13));
        Due.state(() -> x.sheetLinks());
        Due.is(0, () -> x.draw(12));
        Due.is(2, () -> x.sheetLinks());
    }

    private static void sheets() {
        DigHouse x = Houses.stack(3);
        x.layerRelate(1, 2, 3);
        x.draw(0);
        for (int c = 0; c < 16; c++) {
            int context = c;
            Due.is(c, () -> x.sheetGroup(context));
        }
        x.layerUndo(1);
        x.layerRelate(1, 2, 3);
        Due.is(2, () -> x.sheetGroup(2));
        x.context();
        x.layerRelate(3, 2, 3);
        x.draw(0);
        int[] due = {0, 1, 1, 1, 4, 15};
        int[] asked = {0, 1, 2, 3, 4, 15};
        for (int i = 0; i < 6; i++) {
            int at = i;
            Due.is(due[at], () -> x.sheetGroup(asked[at]));
        }
        Due.is(4, () -> x.sheetCount(0));
        Due.is(2, () -> x.sheetCount(2));
        DigHouse none = new DigHouse();
        Due.is(0, () -> none.draw(12));
        for (int what = 0; what < 5; what++) {
            int w = what;
            Due.is(0, () -> none.sheetCount(w));
        }
        Due.is(0, () -> none.sheetLinks());
        Due.is(0, () -> none.sheetCommand(-1));
        Due.index(() -> none.sheetCommand(0));
        Due.is(-1, () -> none.sheetAt(0, 0));
        Due.index(() -> none.sheetLink(0, 0));
        Due.is(0, () -> none.sheetCrossings(12));
    }

    /** Misfits: the upper one's phase is greater; equal ones fit, and those without one. */
    private static void misfits() {
        DigHouse x = Houses.stack(4);
        x.phase(0, 5);
        x.phase(3, 5);
        Due.is(0, () -> x.draw(0));
        x.phase(3, 4);
        x.hide(3, true);
        Due.is(-2, () -> x.draw(0));
        Due.is(0, () -> x.sheetMisfit(0, 0));
        Due.is(3, () -> x.sheetMisfit(0, 1));
        x.phase(1, 5);
        x.phase(2, 0);
        x.draw(0);
        int[][] due = {{0, 2}, {0, 3}, {1, 2}, {1, 3}};
        for (int k = 0; k < 4; k++) {
            int at = k;
            Due.is(due[at][0], () -> x.sheetMisfit(at, 0));
            Due.is(due[at][1], () -> x.sheetMisfit(at, 1));
        }
        Due.is(-1, () -> x.sheetMisfit(4, 0));
        Due.is(-1, () -> x.sheetMisfit(4, 1));
        // All pairs of sixteen: phases 5 down to 0 misfit but where they are equal.
        DigHouse y = Houses.stack(16);
        for (int c = 0; c < 16; c++) {
            y.phase(c, c < 6 ? 5 - c : -1);
        }
        Due.is(-2, () -> y.draw(0));
        Due.is(-1, () -> y.sheetMisfit(15, 0));
        Due.is(4, () -> y.sheetMisfit(14, 0));
        Due.is(5, () -> y.sheetMisfit(14, 1));
        Due.is(-1, () -> y.sheetMisfit(119, 0));
        Due.is(-1, () -> y.sheetMisfit(120, 0));
        // As many as there can be: all pairs but those within six groups of equal phases.
        int[] phases = {5, 5, 5, 4, 4, 4, 3, 3, 3, 2, 2, 2, 1, 1, 0, 0};
        for (int c = 0; c < 16; c++) {
            y.phase(c, phases[c]);
        }
        Due.is(-2, () -> y.draw(0));
        Due.is(13, () -> y.sheetMisfit(105, 0));
        Due.is(15, () -> y.sheetMisfit(105, 1));
        Due.is(-1, () -> y.sheetMisfit(106, 0));
        // A joined one has the least phase of its contexts.
        DigHouse z = Houses.stack(2);
        z.context();
        z.layerRelate(2, 0, 3);
        z.phase(0, 3);
        z.phase(1, 2);
        Due.is(-2, () -> z.draw(0));
        z.phase(2, 2);
        Due.is(0, () -> z.draw(0));
    }

    /** Crossings at first and behind each round; a later draw with fewer rounds has no more of them. */
    private static void crossings() {
        DigHouse x = Houses.contexts(4);
        x.layerRelate(0, 3, 0);
        x.layerRelate(1, 2, 0);
        Due.is(1, () -> x.draw(0));
        Due.is(1, () -> x.sheetCrossings(0));
        Due.index(() -> x.sheetCrossings(1));
        Due.is(0, () -> x.draw(12));
        Due.is(1, () -> x.sheetCrossings(0));
        for (int k = 1; k <= 12; k++) {
            int round = k;
            Due.is(0, () -> x.sheetCrossings(round));
        }
        Due.index(() -> x.sheetCrossings(13));
        Due.is(0, () -> x.draw(1));
        Due.is(0, () -> x.sheetCrossings(1));
        Due.index(() -> x.sheetCrossings(2));
        Due.index(() -> x.sheetCrossings(MAX));
        // Four by four, each above each: 36 crossings that no round lessens.
        DigHouse y = Houses.contexts(8);
        for (int a = 0; a < 4; a++) {
            for (int b = 4; b < 8; b++) {
                y.layerRelate(a, b, 0);
            }
        }
        Due.is(36, () -> y.draw(12));
        Due.is(36, () -> y.sheetCrossings(12));
    }
}
