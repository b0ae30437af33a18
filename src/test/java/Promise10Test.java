/** ownerRow, ownerShare, ownerDoubt, ownerCorrect, ownerKnown, ownerGap, ownerHeld, ownerDanger, ownerAsked, ownerClaim, ownerSettle. */
public final class Promise10Test {
    public static void main(String[] args) {
        rows();
        corrections();
        mostCorrections();
        gaps();
        shares();
        tooFine();
        dangers();
        claims();
        Due.end();
    }

    private static DigHouse house(int things) {
        DigHouse x = new DigHouse();
        x.context();
        for (int o = 0; o < things; o++) {
            x.find(0, 0, -1);
            x.object(o, 1, 1, 1, 1);
        }
        return x;
    }

    private static void rows() {
        DigHouse x = house(1);
        Due.element(() -> x.ownerRow(1, 0, -1, 0, 0));
        Due.element(() -> x.ownerRow(0, 32, -1, 0, 0));
        Due.element(() -> x.ownerRow(0, -1, 0, 0, 0));
        Due.argument(() -> x.ownerRow(0, 0, -1, 0, 0));
        Due.argument(() -> x.ownerRow(0, 0, 0, 100001, 0));
        Due.argument(() -> x.ownerRow(0, 0, 0, 0, 100001));
        Due.argument(() -> x.ownerRow(0, 0, 5, 4, 0));
        Due.element(() -> x.ownerShare(0, 0, 0));
        Due.element(() -> x.ownerDoubt(0, true));
        Due.element(() -> x.ownerKnown(0, 9, -1));
        for (int r = 0; r < 120; r++) {
            int row = r;
            Due.is(row, () -> x.ownerRow(0, 31, 0, 100000, 100000));
        }
        Due.state(() -> x.ownerRow(0, 0, 0, 0, 0));
        Due.argument(() -> x.ownerRow(0, 0, 1, 0, 0));
        Due.argument(() -> x.ownerShare(119, 0, 1));
        Due.argument(() -> x.ownerShare(119, 2, 1));
        Due.argument(() -> x.ownerShare(119, 1, 1001));
        Due.element(() -> x.ownerShare(120, 1, 1));
        x.ownerShare(119, 1, 1000);
        Due.yes(() -> x.ownerDoubt(119, true));
        Due.no(() -> x.ownerDoubt(119, true));
        Due.yes(() -> x.ownerDoubt(119, false));
        Due.element(() -> x.ownerDoubt(-1, true));
    }

    private static void corrections() {
        DigHouse x = house(1);
        x.ownerRow(0, 1, 10, 20, 5);
        Due.element(() -> x.ownerCorrect(1, 9, -1, -1));
        Due.element(() -> x.ownerCorrect(0, 3, 0, 5));
        Due.element(() -> x.ownerCorrect(0, 0, 32, -1));
        Due.argument(() -> x.ownerCorrect(0, 1, -1, 5));
        Due.argument(() -> x.ownerCorrect(0, 2, 100001, 5));
        Due.argument(() -> x.ownerCorrect(0, 0, 0, 4));
        Due.argument(() -> x.ownerCorrect(0, 0, 0, 100001));
        x.ownerCorrect(0, 0, 7, 30);
        x.ownerCorrect(0, 0, 8, 20);
        x.ownerCorrect(0, 1, 25, 20);
        x.ownerCorrect(0, 1, 15, 20);
        Due.is(-1, () -> x.ownerKnown(0, 0, 4));
        Due.is(1, () -> x.ownerKnown(0, 0, 19));
        Due.is(8, () -> x.ownerKnown(0, 0, 20));
        Due.is(8, () -> x.ownerKnown(0, 0, 29));
        Due.is(7, () -> x.ownerKnown(0, 0, 30));
        Due.is(10, () -> x.ownerKnown(0, 1, 19));
        Due.is(15, () -> x.ownerKnown(0, 1, 20));
        Due.is(20, () -> x.ownerKnown(0, 2, 100000));
        Due.argument(() -> x.ownerKnown(0, 0, 100001));
        Due.argument(() -> x.ownerKnown(0, 0, -1));
        Due.element(() -> x.ownerKnown(0, 3, -1));
        x.ownerCorrect(0, 2, 14, 40);
        Due.is(14, () -> x.ownerKnown(0, 2, 40));
        Due.is(-1, () -> x.ownerSeen(0, 0, 0, 40));
        Due.is(0, () -> x.ownerSeen(0, 0, 0, 39));
        Due.is(-1, () -> x.ownerGap(0, 0, 0, 40));
        Due.is(0, () -> x.ownerHeld(0, 14, 40, 0));
        Due.is(0, () -> x.ownerChain(0, 40, -1));
    }

    private static void mostCorrections() {
        DigHouse x = house(1);
        x.ownerRow(0, 1, 10, 20, 5);
        for (int c = 0; c < 200; c++) {
            x.ownerCorrect(0, 0, c % 32, 5);
        }
        Due.state(() -> x.ownerCorrect(0, 0, 0, 5));
        Due.argument(() -> x.ownerCorrect(0, 0, 0, 4));
        Due.is(199 % 32, () -> x.ownerKnown(0, 0, 5));
    }

    private static void gaps() {
        DigHouse x = house(2);
        Due.is(-1, () -> x.ownerGap(0, 0, 0, 0));
        x.ownerRow(0, 1, 10, 20, 0);
        x.ownerRow(0, 2, 21, 25, 0);
        x.ownerRow(0, 2, 30, 31, 0);
        x.ownerRow(0, 2, 5, 6, 0);
        x.ownerRow(0, 2, 12, 13, 0);
        x.ownerRow(0, 2, 26, 27, 50);
        x.ownerRow(1, 2, 0, 100000, 0);
        int[] due = {7, 9, 26, 29, -1, -1};
        for (int i = 0; i < 6; i++) {
            int at = i;
            Due.is(due[i], () -> x.ownerGap(0, at / 2, at % 2, 49));
        }
        Due.is(28, () -> x.ownerGap(0, 1, 0, 50));
        Due.is(-1, () -> x.ownerGap(1, 0, 0, 50));
        Due.element(() -> x.ownerGap(2, 0, 0, -1));
        Due.element(() -> x.ownerGap(0, -1, 0, -1));
        Due.element(() -> x.ownerGap(0, 0, 2, -1));
        Due.argument(() -> x.ownerGap(0, 0, 0, -1));
    }

    private static void shares() {
        DigHouse x = house(1);
        Due.is(0, () -> x.ownerHeld(0, 5, 5, 0));
        Due.is(1, () -> x.ownerHeld(0, 5, 5, 1));
        x.ownerRow(0, 1, 0, 10, 0);
        x.ownerRow(0, 2, 5, 10, 0);
        x.ownerShare(0, 2, 4);
        Due.is(1, () -> x.ownerHeld(0, 0, 0, 0));
        Due.is(2, () -> x.ownerHeld(0, 0, 0, 1));
        Due.is(3, () -> x.ownerHeld(0, 5, 0, 0));
        x.ownerShare(1, 1, 6);
        Due.is(2, () -> x.ownerHeld(0, 5, 0, 0));
        Due.is(3, () -> x.ownerHeld(0, 5, 0, 1));
        Due.is(0, () -> x.ownerHeld(0, 11, 0, 0));
        Due.element(() -> x.ownerHeld(1, -1, 0, 0));
        Due.element(() -> x.ownerHeld(0, -1, 0, 2));
        Due.argument(() -> x.ownerHeld(0, -1, 0, 0));
        Due.argument(() -> x.ownerHeld(0, 0, 100001, 0));
    }

    /** 1/997 and 1/991 and 1/983 come to a part below of 971260541; with 1/7 it is too much. */
    private static void tooFine() {
        DigHouse x = house(1);
        int[] below = {997, 991, 983, 7};
        for (int r = 0; r < 4; r++) {
            x.ownerRow(0, 1, r == 3 ? 5 : 0, 9, 0);
            x.ownerShare(r, 1, below[r]);
        }
        Due.is(997 * 991 * 983, () -> x.ownerHeld(0, 0, 0, 1));
        Due.is(991 * 983 + 997 * 983 + 997 * 991, () -> x.ownerHeld(0, 0, 0, 0));
        Due.state(() -> x.ownerHeld(0, 5, 0, 0));
        x.ownerShare(3, 1, 991);
        Due.is(997 * 991 * 983, () -> x.ownerHeld(0, 5, 0, 1));
    }

    private static void dangers() {
        DigHouse x = house(2);
        x.ownerRow(0, 1, 10, 20, 0);
        x.ownerRow(0, 2, 20, 30, 0);
        x.ownerRow(1, 2, 20, 30, 0);
        Due.is(-1, () -> x.ownerAsked(0, 0, 0));
        Due.element(() -> x.ownerDanger(32, 9, 8));
        Due.element(() -> x.ownerDanger(-2, 0, 0));
        Due.argument(() -> x.ownerDanger(0, 9, 8));
        Due.argument(() -> x.ownerDanger(0, -1, 8));
        Due.argument(() -> x.ownerDanger(0, 0, 100001));
        Due.is(0, () -> x.ownerDanger(2, 15, 19));
        Due.is(-1, () -> x.ownerAsked(0, 0, 0));
        Due.is(1, () -> x.ownerDanger(-1, 30, 30));
        Due.is(1, () -> x.ownerAsked(0, 0, 0));
        Due.is(2, () -> x.ownerDanger(1, 20, 25));
        Due.is(0, () -> x.ownerAsked(0, 0, 0));
        Due.is(1, () -> x.ownerAsked(0, 1, 0));
        Due.is(-1, () -> x.ownerAsked(0, 2, 0));
        x.ownerCorrect(0, 0, 3, 7);
        Due.is(1, () -> x.ownerAsked(0, 0, 7));
        Due.is(0, () -> x.ownerAsked(0, 0, 6));
        Due.element(() -> x.ownerAsked(2, 0, -1));
        Due.element(() -> x.ownerAsked(0, -1, -1));
        Due.argument(() -> x.ownerAsked(0, 0, -1));
        for (int d = 3; d < 10; d++) {
            int rule = d;
            Due.is(rule, () -> x.ownerDanger(-1, 0, 100000));
        }
        Due.state(() -> x.ownerDanger(-1, 0, 0));
        Due.argument(() -> x.ownerDanger(-1, 1, 0));
    }

    private static void claims() {
        DigHouse x = house(1);
        Due.element(() -> x.ownerClaim(1, 0, -1));
        Due.element(() -> x.ownerClaim(0, 32, -1));
        Due.argument(() -> x.ownerClaim(0, 0, -1));
        Due.element(() -> x.ownerSettle(0, -1));
        Due.is(0, () -> x.ownerClaim(0, 0, 10));
        Due.argument(() -> x.ownerSettle(0, 9));
        Due.argument(() -> x.ownerSettle(0, 100001));
        Due.yes(() -> x.ownerStops(0, 10));
        x.ownerSettle(0, 12);
        Due.yes(() -> x.ownerStops(0, 11));
        Due.no(() -> x.ownerStops(0, 12));
        Due.no(() -> x.ownerStops(0, 9));
        Due.state(() -> x.ownerSettle(0, 13));
        Due.argument(() -> x.ownerSettle(0, 9));
        Due.element(() -> x.ownerSettle(-1, 9));
        for (int c = 1; c < 30; c++) {
            int claim = c;
            Due.is(claim, () -> x.ownerClaim(0, 0, 0));
        }
        Due.state(() -> x.ownerClaim(0, 0, 0));
        Due.argument(() -> x.ownerClaim(0, 0, -1));
    }
}
