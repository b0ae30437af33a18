/** save, cut, reopen; layerRelate, layerRing, layerUndo, layerOrder, layerLinks, layerLink, layerEqual, layerContemporary. */
public final class Promise05Test {
    public static void main(String[] args) {
        cuts();
        behindACut();
        reopens();
        refused();
        relations();
        equals();
        mostRelations();
        Due.end();
    }

    private static void cuts() {
        DigHouse x = new DigHouse();
        Due.state(() -> x.reopen());
        Due.argument(() -> x.cut(-1));
        Due.argument(() -> x.cut(1));
        x.context();
        x.context();
        Due.is(2, () -> x.save());
        Due.is(2, () -> x.save());
        x.context();
        x.layerRelate(0, 1, 0);
        x.hide(2, true);
        Due.argument(() -> x.cut(67));
        Due.argument(() -> x.cut(-1));
        Due.is(5, () -> x.had(4));
        Due.is(4, () -> x.cut(65));
        Due.is(4, () -> x.reopen());
        Due.is(4, () -> x.had(4));
        Due.is(4, () -> x.had(5));
        Due.is(1, () -> x.layerOrder(0, 1));
        Due.yes(() -> x.hide(2, true));
        Due.is(5, () -> x.cut(22));
        Due.is(5, () -> x.reopen());
        Due.no(() -> x.hide(2, true));
        Due.is(5, () -> x.cut(21));
        Due.is(5, () -> x.reopen());
        Due.is(5, () -> x.cut(0));
        Due.state(() -> x.reopen());
        Due.state(() -> x.present());
    }

    /** Behind a cut the state is told ahead of all others. */
    private static void behindACut() {
        DigHouse x = new DigHouse();
        x.context();
        Due.is(0, () -> x.cut(0));
        Due.state(() -> x.cut(-1));
        Due.state(() -> x.save());
        Due.state(() -> x.context());
        Due.state(() -> x.phase(9, 9));
        Due.state(() -> x.had(9));
        Due.state(() -> x.layerRing(-1));
        Due.state(() -> x.sheetAt(-1, 9));
        Due.state(() -> x.curveWeight(99, 99));
        Due.state(() -> x.wayTotal(99));
        Due.state(() -> x.ownerKnown(9, 9, -1));
        Due.state(() -> x.placeCount(99));
        Due.state(() -> x.termMany(99));
        Due.state(() -> x.roomDegrees(9));
        Due.state(() -> x.methodAbout(99, 0));
        Due.state(() -> x.claimCount(99));
        Due.state(() -> x.rightCount(99));
        Due.state(() -> x.ticketCount(99));
        Due.is(0, () -> x.reopen());
        Due.is(0, () -> x.had(4));
        Due.is(0, () -> x.layerCount(0));
        Due.state(() -> x.reopen());
    }

    /** What was run and read is there again; what was lost can be told anew. */
    private static void reopens() {
        DigHouse x = new DigHouse();
        x.context();
        x.find(0, 0, -1);
        x.object(0, 1, 2, 3, 4);
        x.place(-1, 100);
        x.room(0);
        x.lamp(0, 50);
        x.carry(0, 0, 0, 0);
        x.hour(30000, 2000);
        x.termUnit(97);
        Due.is(9, () -> x.save());
        x.termUnit(60);
        x.hour(30000, 2000);
        Due.is(9, () -> x.cut(0));
        Due.is(9, () -> x.reopen());
        Due.is(50, () -> x.light(0));
        Due.is(1, () -> x.present());
        Due.is(21000, () -> x.warm(0));
        Due.is(2, () -> x.termUnit(60));
        Due.is(0, () -> x.hour(30000, 2000));
        Due.is(100, () -> x.light(0));
        Due.is(2, () -> x.had(3));
    }

    /** Calls that throw are no rows, those that answer NONE are. */
    private static void refused() {
        DigHouse x = new DigHouse();
        x.context();
        Due.index(() -> x.phase(1, 0));
        Due.argument(() -> x.phase(0, 9));
        Due.element(() -> x.dated(0, 0));
        Due.is(1, () -> x.had(4));
        Due.is(-1, () -> x.layerRelate(0, 0, 0));
        Due.is(2, () -> x.had(4));
        x.layerCount(0);
        x.present();
        Due.is(2, () -> x.had(4));
        Due.is(-1, () -> x.termRead());
        Due.is(3, () -> x.had(4));
        x.save();
        x.cut(0);
        x.reopen();
        Due.is(0, () -> x.layerRing(0));
        Due.is(-1, () -> x.layerRing(1));
    }

    private static void relations() {
        DigHouse x = new DigHouse();
        for (int c = 0; c < 6; c++) {
            x.context();
        }
        Due.index(() -> x.layerRelate(6, 0, 0));
        Due.index(() -> x.layerRelate(0, -1, 0));
        Due.index(() -> x.layerRelate(0, 1, 5));
        Due.index(() -> x.layerRelate(0, 1, -1));
        Due.index(() -> x.layerRing(-1));
        Due.is(-1, () -> x.layerRing(0));
        Due.is(0, () -> x.layerRelate(0, 1, 0));
        Due.is(1, () -> x.layerRelate(1, 2, 1));
        Due.is(2, () -> x.layerRelate(2, 3, 2));
        Due.is(3, () -> x.layerRelate(0, 4, 0));
        Due.is(4, () -> x.layerRelate(4, 3, 0));
        Due.is(5, () -> x.layerRelate(0, 3, 0));
        Due.is(5, () -> x.layerLinks());
        Due.is(-1, () -> x.layerRelate(3, 0, 0));
        int[] ring = {3, 0, -1};
        for (int k = 0; k < 3; k++) {
            int at = k;
            Due.is(ring[k], () -> x.layerRing(at));
        }
        Due.yes(() -> x.layerUndo(5));
        Due.no(() -> x.layerUndo(5));
        Due.index(() -> x.layerUndo(6));
        Due.index(() -> x.layerUndo(-1));
        Due.is(-1, () -> x.layerRelate(3, 0, 2));
        int[] longer = {3, 0, 4, -1};
        for (int k = 0; k < 4; k++) {
            int at = k;
            Due.is(longer[k], () -> x.layerRing(at));
        }
        Due.is(6, () -> x.layerRelate(3, 0, 4));
        Due.is(1, () -> x.layerOrder(0, 3));
        Due.is(-1, () -> x.layerOrder(3, 1));
        Due.is(0, () -> x.layerOrder(1, 4));
        Due.is(0, () -> x.layerOrder(2, 2));
        Due.index(() -> x.layerOrder(0, 6));
        int[][] links = {{0, 1}, {0, 4}, {1, 2}, {2, 3}, {4, 3}};
        Due.is(5, () -> x.layerLinks());
        for (int k = 0; k < 5; k++) {
            int at = k;
            Due.is(links[k][0], () -> x.layerLink(at, 0));
            Due.is(links[k][1], () -> x.layerLink(at, 1));
        }
        Due.index(() -> x.layerLink(5, 0));
        Due.index(() -> x.layerLink(-1, 0));
        Due.index(() -> x.layerLink(0, 2));
        Due.index(() -> x.layerLink(0, -1));
    }

    private static void equals() {
        DigHouse x = new DigHouse();
        for (int c = 0; c < 6; c++) {
            x.context();
        }
        x.layerRelate(1, 2, 0);
        x.layerRelate(2, 3, 0);
        Due.is(-1, () -> x.layerRelate(3, 1, 3));
        int[] ring = {1, 2, 3, -1};
        for (int k = 0; k < 4; k++) {
            int at = k;
            Due.is(ring[k], () -> x.layerRing(at));
        }
        Due.is(2, () -> x.layerRelate(5, 3, 3));
        Due.is(3, () -> x.layerRelate(3, 4, 3));
        Due.is(3, () -> x.layerEqual(5));
        Due.is(3, () -> x.layerEqual(4));
        Due.is(0, () -> x.layerEqual(0));
        Due.index(() -> x.layerEqual(6));
        Due.is(1, () -> x.layerOrder(1, 5));
        Due.is(-1, () -> x.layerRelate(4, 5, 0));
        Due.is(3, () -> x.layerRing(0));
        Due.is(-1, () -> x.layerRing(1));
        Due.is(4, () -> x.layerRelate(4, 5, 3));
        Due.no(() -> x.layerContemporary(0, 5));
        Due.yes(() -> x.layerContemporary(0, 0));
        Due.yes(() -> x.layerContemporary(4, 5));
        Due.is(5, () -> x.layerRelate(4, 0, 4));
        Due.yes(() -> x.layerContemporary(0, 5));
        Due.yes(() -> x.layerContemporary(5, 0));
        Due.index(() -> x.layerContemporary(0, 6));
        x.layerUndo(5);
        Due.no(() -> x.layerContemporary(0, 5));
        x.layerUndo(2);
        x.layerUndo(4);
        Due.is(5, () -> x.layerEqual(5));
        Due.is(0, () -> x.layerOrder(1, 5));
    }

    private static void mostRelations() {
        DigHouse x = new DigHouse();
        x.context();
        x.context();
        for (int r = 0; r < 200; r++) {
            int relation = r;
            Due.is(relation, () -> x.layerRelate(0, 1, relation % 3));
            x.layerUndo(r);
        }
        Due.state(() -> x.layerRelate(0, 1, 0));
        Due.state(() -> x.layerRelate(0, 0, 0));
        Due.index(() -> x.layerRelate(0, 2, 0));
        Due.is(-1, () -> x.layerRing(0));
    }
}
