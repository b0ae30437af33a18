/** A new object: nothing is told, hour 0, twelve years and the unit 999. */
public final class Promise01Test {
    public static void main(String[] args) {
        DigHouse x = new DigHouse();
        Due.is(-1, () -> DigHouse.NONE);
        for (int what = 0; what < 6; what++) {
            int w = what;
            Due.is(0, () -> x.had(w));
        }
        Due.is(0, () -> x.present());
        Due.is(12, () -> x.curveCount(0));
        Due.is(1, () -> x.curveCount(1));
        for (int what = 2; what < 7; what++) {
            int w = what;
            Due.is(0, () -> x.curveCount(w));
        }
        for (int what = 0; what < 5; what++) {
            int w = what;
            Due.is(0, () -> x.layerCount(w));
            Due.is(0, () -> x.termCount(w));
            Due.is(0, () -> x.methodCount(w));
            Due.is(0, () -> x.claimCount(w));
            Due.is(0, () -> x.rightCount(w));
            Due.is(0, () -> x.placeCount(w));
            Due.is(0, () -> x.ticketCount(w));
        }
        theUnit();
        two();
        Due.end();
    }

    /** A date that lies on its row of the curve weighs the unit. */
    private static void theUnit() {
        DigHouse x = new DigHouse();
        Due.no(() -> x.curveRow(3, 500, 10));
        Due.is(0, () -> x.curveDate(500, 10));
        Due.is(999, () -> x.curveWeight(0, 3));
        Due.is(0, () -> x.curveWeight(0, 2));
        Due.index(() -> x.curveWeight(0, 12));
    }

    /** Objects know nothing of one another. */
    private static void two() {
        DigHouse x = new DigHouse();
        DigHouse y = new DigHouse();
        Due.is(0, () -> x.context());
        Due.is(0, () -> y.layerCount(0));
        Due.is(0, () -> y.context());
        Due.is(1, () -> x.context());
    }
}
