/** claimSource, claimNew, claimRests, claimRestsOn, claimRing, claimLift, claimWithdraw, claimOpinion, claimRule, claimAgreed, claimDissent. */
public final class Promise18Test {
    public static void main(String[] args) {
        sources();
        claims();
        rings();
        withdrawn();
        opinions();
        mostOpinions();
        agreed();
        Due.end();
    }

    private static void sources() {
        DigHouse x = new DigHouse();
        Due.argument(() -> x.claimSource(26, 0));
        Due.argument(() -> x.claimSource(-1, 0));
        Due.argument(() -> x.claimSource(0, 100001));
        Due.argument(() -> x.claimSource(0, -1));
        x.claimUnit(65);
        Due.is(0, () -> x.claimSource(25, 100000));
        Due.is(0, () -> x.claimCount(0));
        for (int s = 1; s < 24; s++) {
            int source = s;
            Due.is(source, () -> x.claimSource(0, 0));
        }
        x.claimUnit(65);
        Due.state(() -> x.claimSource(0, 0));
        Due.argument(() -> x.claimSource(26, 0));
        Due.is(1, () -> x.claimCount(0));
        Due.is(24, () -> x.claimCount(1));
    }

    private static void claims() {
        DigHouse x = new DigHouse();
        Due.element(() -> x.claimRests(0, 0, true));
        for (int c = 0; c < 24; c++) {
            int claim = c;
            Due.is(claim, () -> x.claimNew());
        }
        Due.state(() -> x.claimNew());
        Due.element(() -> x.claimRests(0, 0, true));
        x.claimSource(0, 0);
        Due.element(() -> x.claimRests(24, 0, true));
        Due.no(() -> x.claimRests(23, 0, false));
        Due.yes(() -> x.claimRests(23, 0, true));
        Due.no(() -> x.claimRests(23, 0, true));
        Due.yes(() -> x.claimHeld(23, 0));
        Due.yes(() -> x.claimRests(23, 0, false));
        Due.no(() -> x.claimHeld(23, 0));
    }

    private static void rings() {
        DigHouse x = new DigHouse();
        for (int c = 0; c < 6; c++) {
            x.claimNew();
        }
        Due.element(() -> x.claimRestsOn(6, 0));
        Due.element(() -> x.claimRestsOn(0, -1));
        Due.element(() -> x.claimRing(-1));
        Due.is(-1, () -> x.claimRing(0));
        Due.is(1, () -> x.claimRestsOn(0, 4));
        Due.is(0, () -> x.claimRestsOn(0, 4));
        Due.is(1, () -> x.claimRestsOn(4, 5));
        Due.is(1, () -> x.claimRestsOn(0, 2));
        Due.is(1, () -> x.claimRestsOn(2, 5));
        Due.is(-1, () -> x.claimRestsOn(5, 0));
        int[] ring = {5, 0, 2, -1};
        for (int k = 0; k < 4; k++) {
            int at = k;
            Due.is(ring[k], () -> x.claimRing(at));
        }
        Due.is(-1, () -> x.claimRestsOn(3, 3));
        Due.is(3, () -> x.claimRing(0));
        Due.is(-1, () -> x.claimRing(1));
        Due.is(4, () -> x.claimCount(4));
        Due.yes(() -> x.claimLift(0, 2));
        Due.no(() -> x.claimLift(0, 2));
        Due.yes(() -> x.claimLift(0, 4));
        Due.element(() -> x.claimLift(0, 6));
        Due.element(() -> x.claimLift(-1, 0));
        Due.is(1, () -> x.claimRestsOn(5, 0));
    }

    private static void withdrawn() {
        DigHouse x = new DigHouse();
        Due.element(() -> x.claimWithdraw(0, -2));
        x.claimSource(0, 10);
        x.claimNew();
        x.claimNew();
        x.claimRests(0, 0, true);
        x.claimRestsOn(1, 0);
        Due.argument(() -> x.claimWithdraw(0, -2));
        Due.argument(() -> x.claimWithdraw(0, 100001));
        Due.no(() -> x.claimHeld(1, 9));
        Due.yes(() -> x.claimHeld(1, 10));
        Due.is(-1, () -> x.claimWithdraw(0, 20));
        Due.yes(() -> x.claimHeld(1, 19));
        Due.no(() -> x.claimHeld(1, 20));
        Due.is(20, () -> x.claimWithdraw(0, 0));
        Due.no(() -> x.claimHeld(0, 15));
        Due.is(0, () -> x.claimWithdraw(0, -1));
        Due.yes(() -> x.claimHeld(0, 100000));
        Due.element(() -> x.claimHeld(2, -1));
        Due.argument(() -> x.claimHeld(0, -1));
    }

    private static DigHouse house() {
        DigHouse x = new DigHouse();
        x.claimSource(0, 0);
        x.claimNew();
        x.claimRests(0, 0, true);
        return x;
    }

    private static void opinions() {
        DigHouse x = house();
        Due.element(() -> x.claimOpinion(32, 0, 100, 0, 0));
        Due.element(() -> x.claimOpinion(-1, 0, 0, 0, 0));
        Due.element(() -> x.claimOpinion(0, 1, 100, 0, 0));
        Due.argument(() -> x.claimOpinion(0, 0, 100, 0, 0));
        Due.argument(() -> x.claimOpinion(0, 0, -1, 0, 0));
        Due.argument(() -> x.claimOpinion(0, 0, 0, -1, 0));
        Due.argument(() -> x.claimOpinion(0, 0, 0, 100001, 0));
        Due.argument(() -> x.claimOpinion(0, 0, 0, 0, 10));
        Due.argument(() -> x.claimOpinion(0, 0, 0, 0, -1));
        Due.is(1, () -> x.claimOpinion(31, 0, 99, 100, 9));
        Due.is(2, () -> x.claimOpinion(31, 0, 50, 50, 0));
        Due.is(2, () -> x.claimOpinion(31, 0, 98, 100, 9));
        x.claimNew();
        Due.is(1, () -> x.claimOpinion(31, 1, 98, 100, 9));
        Due.is(3, () -> x.claimCount(3));
        Due.is(-1, () -> x.claimAgreed(0, 49));
        Due.is(50, () -> x.claimAgreed(0, 99));
        Due.is(98, () -> x.claimAgreed(0, 100));
        Due.element(() -> x.claimAgreed(2, -1));
        Due.argument(() -> x.claimAgreed(0, -1));
        Due.argument(() -> x.claimAgreed(0, 100001));
    }

    private static void mostOpinions() {
        DigHouse x = house();
        x.claimNew();
        for (int o = 0; o < 300; o++) {
            int at = o;
            Due.is(o / 2 + 1, () -> x.claimOpinion(at % 32, at % 2, 5, at, 0));
        }
        Due.state(() -> x.claimOpinion(0, 0, 5, 1000, 0));
        Due.argument(() -> x.claimOpinion(0, 0, 100, 1000, 0));
        Due.is(150, () -> x.claimOpinion(0, 0, 6, 0, 0));
        Due.is(300, () -> x.claimCount(3));
    }

    private static void agreed() {
        DigHouse x = house();
        Due.element(() -> x.claimRule(1, 9));
        Due.argument(() -> x.claimRule(0, 3));
        Due.argument(() -> x.claimRule(0, -1));
        Due.is(0, () -> x.claimRule(0, 0));
        Due.is(-1, () -> x.claimAgreed(0, 0));
        x.claimOpinion(5, 0, 10, 0, 1);
        x.claimOpinion(3, 0, 20, 0, 2);
        Due.is(-2, () -> x.claimAgreed(0, 0));
        x.claimOpinion(9, 0, 10, 1, 2);
        Due.is(10, () -> x.claimAgreed(0, 1));
        dissent(x, 1, 3);
        dissent(x, 0, 3, 5);
        Due.is(0, () -> x.claimRule(0, 1));
        Due.is(20, () -> x.claimAgreed(0, 0));
        Due.is(10, () -> x.claimAgreed(0, 1));
        x.claimOpinion(11, 0, 30, 1, 2);
        Due.is(-2, () -> x.claimAgreed(0, 1));
        dissent(x, 1, 3, 5, 9, 11);
        x.claimOpinion(11, 0, 10, 1, 2);
        dissent(x, 1, 3);
        Due.is(1, () -> x.claimRule(0, 2));
        Due.is(-2, () -> x.claimAgreed(0, 1));
        x.claimOpinion(3, 0, 10, 2, 0);
        Due.is(10, () -> x.claimAgreed(0, 2));
        dissent(x, 2);
        x.claimWithdraw(0, 2);
        Due.is(-1, () -> x.claimAgreed(0, 2));
        dissent(x, 2, 3, 5, 9, 11);
        Due.element(() -> x.claimDissent(1, -1, 0));
        Due.element(() -> x.claimDissent(0, -1, -1));
        Due.argument(() -> x.claimDissent(0, -1, 0));
    }

    private static void dissent(DigHouse x, int day, int... due) {
        for (int k = 0; k < due.length; k++) {
            int at = k;
            Due.is(due[k], () -> x.claimDissent(0, day, at));
        }
        Due.is(-1, () -> x.claimDissent(0, day, due.length));
    }
}
