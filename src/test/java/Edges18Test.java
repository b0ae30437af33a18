import java.util.function.Supplier;

/** The edges of promise 18: claimSource up to claimDissent. */
public final class Edges18Test {
    private static final int MIN = Integer.MIN_VALUE;
    private static final int MAX = Integer.MAX_VALUE;

    public static void main(String[] args) {
        bounds();
        sources();
        resting();
        rings();
        withdrawn();
        opinions();
        mostOpinions();
        agreedByMost();
        agreedByRank();
        agreedByAll();
        dissent();
        Due.end();
    }

    private static DigHouse sources(int count) {
        DigHouse x = new DigHouse();
        for (int s = 0; s < count; s++) {
            int source = s;
            x.claimUnit(1 + s);
            Due.is(source, () -> x.claimSource(source, 10));
        }
        return x;
    }

    private static DigHouse claims(int count) {
        DigHouse x = sources(24);
        for (int c = 0; c < count; c++) {
            int claim = c;
            Due.is(claim, () -> x.claimNew());
        }
        return x;
    }

    /** Three hundred opinions of claim 3 and others. */
    private static DigHouse opinions(int count) {
        DigHouse x = claims(24);
        for (int o = 0; o < count; o++) {
            x.claimOpinion(o % 31, o / 31, 7, 5, 5);
        }
        return x;
    }

    private static void bounds() {
        Supplier<DigHouse> house = () -> claims(24);
        Bounds.of(() -> sources(23), "claimSource", 3, 50).argument(0, 0, 25).argument(1, 0, 100000).hold().full(() -> sources(24));
        Bounds.of(() -> claims(23), "claimNew").hold().full(house);
        Bounds.of(house, "claimRests", 3, 4, true).element(0, 0, 23).element(1, 0, 23).hold();
        Bounds.of(house, "claimRestsOn", 3, 4).element(0, 0, 23).element(1, 0, 23).hold();
        Bounds.of(house, "claimRing", 3).element(0, 0, MAX).hold();
        Bounds.of(house, "claimLift", 3, 4).element(0, 0, 23).element(1, 0, 23).hold();
        Bounds.of(house, "claimWithdraw", 3, 50).element(0, 0, 23).argument(1, -1, 100000).hold();
        Bounds.of(() -> opinions(299), "claimOpinion", 3, 4, 50, 60, 5).element(0, 0, 31).element(1, 0, 23).argument(2, 0, 99)
            .argument(3, 0, 100000).argument(4, 0, 9).hold();
        Bounds.of(() -> opinions(299), "claimOpinion", 31, 4, 50, 60, 5).element(0, 0, 31).element(1, 0, 23).argument(2, 0, 99)
            .argument(3, 0, 100000).argument(4, 0, 9).full(() -> opinions(300));
        Bounds.of(house, "claimRule", 3, 1).element(0, 0, 23).argument(1, 0, 2).hold();
        Bounds.of(house, "claimAgreed", 3, 50).element(0, 0, 23).argument(1, 0, 100000).hold();
        Bounds.of(house, "claimDissent", 3, 50, 1).element(0, 0, 23).argument(1, 0, 100000).element(2, 0, MAX).hold();
        DigHouse none = new DigHouse();
        Due.element(() -> none.claimRests(0, 0, true));
        Due.element(() -> none.claimRestsOn(0, 0));
        Due.element(() -> none.claimWithdraw(0, -2));
        Due.element(() -> none.claimOpinion(0, 0, -1, -1, -1));
        Due.element(() -> none.claimRule(0, 3));
        Due.element(() -> none.claimAgreed(0, -1));
        Due.element(() -> none.claimDissent(0, -1, 0));
        Due.is(-1, () -> none.claimRing(0));
    }

    /** A refused source leaves the pad as it is; an empty pad is a text, too. */
    private static void sources() {
        DigHouse x = sources(23);
        x.claimUnit(65);
        Due.argument(() -> x.claimSource(26, 0));
        Due.argument(() -> x.claimSource(0, 100001));
        Due.is(1, () -> x.claimCount(0));
        Due.is(23, () -> x.claimSource(25, 100000));
        Due.is(0, () -> x.claimCount(0));
        x.claimUnit(66);
        Due.state(() -> x.claimSource(0, 0));
        Due.argument(() -> x.claimSource(26, 0));
        Due.is(1, () -> x.claimCount(0));
        DigHouse y = new DigHouse();
        Due.is(0, () -> y.claimSource(0, 0));
        Due.is(0, () -> y.claimQuote(0, 0));
        Due.element(() -> y.claimQuote(0, 1));
    }

    private static void resting() {
        DigHouse x = claims(24);
        Due.yes(() -> x.claimRests(23, 23, true));
        Due.no(() -> x.claimRests(23, 23, true));
        Due.no(() -> x.claimRests(23, 0, false));
        Due.yes(() -> x.claimRests(23, 23, false));
        Due.no(() -> x.claimRests(23, 23, false));
        Due.is(1, () -> x.claimRestsOn(23, 0));
        Due.is(0, () -> x.claimRestsOn(23, 0));
        Due.no(() -> x.claimLift(0, 23));
        Due.yes(() -> x.claimLift(23, 0));
        Due.no(() -> x.claimLift(23, 0));
        Due.is(1, () -> x.claimRestsOn(0, 23));
        Due.is(1, () -> x.claimCount(4));
    }

    private static void ring(DigHouse x, int... due) {
        for (int k = 0; k < due.length; k++) {
            int at = k;
            Due.is(due[k], () -> x.claimRing(at));
        }
        Due.is(-1, () -> x.claimRing(due.length));
        Due.is(-1, () -> x.claimRing(MAX));
        Due.element(() -> x.claimRing(-1));
        Due.element(() -> x.claimRing(MIN));
    }

    /** A ring of one, of two, of all 24; of the shortest ones that with the lower number. */
    private static void rings() {
        DigHouse x = claims(24);
        Due.is(-1, () -> x.claimRestsOn(23, 23));
        ring(x, 23);
        for (int c = 1; c < 24; c++) {
            int claim = c;
            Due.is(1, () -> x.claimRestsOn(claim - 1, claim));
        }
        Due.is(-1, () -> x.claimRestsOn(23, 0));
        ring(x, 23, 0, 1, 2, 3, 4, 5, 6, 7, 8, 9, 10, 11, 12, 13, 14, 15, 16, 17, 18, 19, 20, 21, 22);
        Due.is(-1, () -> x.claimRestsOn(1, 0));
        ring(x, 1, 0);
        // Nothing changed, so that the ring stays when claims are lifted, and what made it may be told then.
        Due.yes(() -> x.claimLift(0, 1));
        ring(x, 1, 0);
        Due.is(1, () -> x.claimRestsOn(1, 0));
        Due.is(23, () -> x.claimCount(4));
        DigHouse y = claims(8);
        int[][] told = {{0, 6}, {6, 3}, {0, 5}, {5, 3}, {0, 4}, {4, 7}, {7, 3}};
        for (int[] pair : told) {
            Due.is(1, () -> y.claimRestsOn(pair[0], pair[1]));
        }
        Due.is(-1, () -> y.claimRestsOn(3, 0));
        ring(y, 3, 0, 5);
        y.claimLift(0, 5);
        Due.is(-1, () -> y.claimRestsOn(3, 0));
        ring(y, 3, 0, 6);
        y.claimLift(6, 3);
        Due.is(-1, () -> y.claimRestsOn(3, 0));
        ring(y, 3, 0, 4, 7);
    }

    /** Held from the source's day on, up to the day ahead of that from which on it is withdrawn; over others, too. */
    private static void withdrawn() {
        DigHouse x = claims(3);
        x.claimRests(0, 0, true);
        x.claimRestsOn(1, 0);
        x.claimRestsOn(2, 1);
        Due.is(-1, () -> x.claimWithdraw(0, 20));
        int[] days = {0, 9, 10, 19, 20, 100000};
        boolean[] due = {false, false, true, true, false, false};
        for (int i = 0; i < 6; i++) {
            int day = days[i];
            for (int c = 0; c < 3; c++) {
                int claim = c;
                Due.compare(day + " " + due[i], day + " " + x.claimHeld(claim, day));
            }
        }
        Due.is(20, () -> x.claimWithdraw(0, 10));
        Due.no(() -> x.claimHeld(2, 10));
        Due.is(10, () -> x.claimWithdraw(0, 0));
        Due.is(0, () -> x.claimWithdraw(0, 100000));
        Due.yes(() -> x.claimHeld(2, 99999));
        Due.no(() -> x.claimHeld(2, 100000));
        Due.is(100000, () -> x.claimWithdraw(0, -1));
        Due.yes(() -> x.claimHeld(2, 100000));
        Due.is(-1, () -> x.claimWithdraw(0, -1));
        // Over all others: the last of 24 rests on the only source.
        DigHouse y = claims(24);
        for (int c = 1; c < 24; c++) {
            y.claimRestsOn(c - 1, c);
        }
        y.claimRests(23, 23, true);
        Due.yes(() -> y.claimHeld(0, 10));
        Due.no(() -> y.claimHeld(0, 9));
        y.claimLift(11, 12);
        Due.no(() -> y.claimHeld(11, 10));
        Due.yes(() -> y.claimHeld(12, 10));
        DigHouse z = claims(24);
        for (int c = 1; c < 24; c++) {
            z.claimRestsOn(c, c - 1);
        }
        z.claimRests(0, 0, true);
        Due.yes(() -> z.claimHeld(23, 10));
    }

    /** A claim held by source 0 from day 10 on. */
    private static DigHouse held() {
        DigHouse x = claims(2);
        x.claimRests(0, 0, true);
        x.claimRests(1, 0, true);
        return x;
    }

    /** Again on the same day: in place of the former one; on other days one more. The latest that is not above counts. */
    private static void opinions() {
        DigHouse x = held();
        Due.is(1, () -> x.claimOpinion(31, 0, 99, 0, 9));
        Due.is(1, () -> x.claimOpinion(31, 0, 0, 0, 0));
        Due.is(2, () -> x.claimOpinion(31, 0, 5, 100000, 0));
        Due.is(3, () -> x.claimOpinion(0, 0, 0, 50, 0));
        Due.is(1, () -> x.claimOpinion(31, 1, 7, 0, 0));
        Due.is(4, () -> x.claimCount(3));
        Due.is(-1, () -> x.claimAgreed(0, 9));
        Due.is(0, () -> x.claimAgreed(0, 10));
        Due.is(0, () -> x.claimAgreed(0, 99999));
        Due.is(-2, () -> x.claimAgreed(0, 100000));
        Due.is(7, () -> x.claimAgreed(1, 10));
        Due.is(3, () -> x.claimOpinion(31, 0, 0, 100000, 0));
        Due.is(0, () -> x.claimAgreed(0, 100000));
        DigHouse y = held();
        y.claimOpinion(0, 0, 3, 15, 0);
        Due.is(-1, () -> y.claimAgreed(0, 14));
        Due.is(3, () -> y.claimAgreed(0, 15));
        y.claimOpinion(0, 0, 4, 12, 0);
        Due.is(4, () -> y.claimAgreed(0, 14));
        Due.is(3, () -> y.claimAgreed(0, 15));
        y.claimRests(0, 0, false);
        Due.is(-1, () -> y.claimAgreed(0, 15));
    }

    /** Three hundred of all claims: another one only in place of one of these. */
    private static void mostOpinions() {
        DigHouse x = opinions(300);
        Due.is(300, () -> x.claimCount(3));
        Due.state(() -> x.claimOpinion(31, 0, 1, 5, 1));
        Due.state(() -> x.claimOpinion(0, 0, 1, 6, 1));
        Due.state(() -> x.claimOpinion(0, 23, 1, 5, 1));
        Due.is(31, () -> x.claimOpinion(0, 0, 1, 5, 1));
        Due.is(21, () -> x.claimOpinion(20, 9, 1, 5, 1));
        Due.is(300, () -> x.claimCount(3));
        Due.argument(() -> x.claimOpinion(31, 0, 100, 5, 1));
        Due.element(() -> x.claimOpinion(32, 0, 100, 5, 1));
        DigHouse y = opinions(299);
        Due.is(21, () -> y.claimOpinion(31, 9, 1, 5, 1));
        Due.state(() -> y.claimOpinion(30, 9, 1, 5, 1));
    }

    /** Most: the value of most persons, a tie of two that as many have; ranks and days don't matter. */
    private static void agreedByMost() {
        DigHouse x = held();
        x.claimOpinion(0, 0, 50, 10, 0);
        x.claimOpinion(1, 0, 99, 10, 9);
        Due.is(-2, () -> x.claimAgreed(0, 10));
        x.claimOpinion(2, 0, 50, 0, 0);
        Due.is(50, () -> x.claimAgreed(0, 10));
        x.claimOpinion(31, 0, 99, 10, 0);
        Due.is(-2, () -> x.claimAgreed(0, 10));
        x.claimOpinion(3, 0, 0, 10, 0);
        Due.is(-2, () -> x.claimAgreed(0, 10));
        x.claimOpinion(4, 0, 0, 10, 0);
        x.claimOpinion(5, 0, 0, 10, 0);
        Due.is(0, () -> x.claimAgreed(0, 10));
        // All 32 persons, each with a value of its own, and then one of them with another's.
        DigHouse y = held();
        for (int p = 0; p < 32; p++) {
            y.claimOpinion(p, 0, 99 - p, 10, 0);
        }
        Due.is(-2, () -> y.claimAgreed(0, 10));
        y.claimOpinion(31, 0, 99, 10, 0);
        Due.is(99, () -> y.claimAgreed(0, 10));
    }

    /** Rank: of those with the greatest rank, the value of those with the greatest day. */
    private static void agreedByRank() {
        DigHouse x = held();
        Due.is(0, () -> x.claimRule(0, 1));
        x.claimOpinion(0, 0, 1, 10, 0);
        x.claimOpinion(1, 0, 2, 11, 0);
        Due.is(1, () -> x.claimAgreed(0, 10));
        Due.is(2, () -> x.claimAgreed(0, 11));
        x.claimOpinion(2, 0, 3, 10, 1);
        Due.is(3, () -> x.claimAgreed(0, 11));
        x.claimOpinion(3, 0, 4, 10, 1);
        Due.is(-2, () -> x.claimAgreed(0, 11));
        x.claimOpinion(3, 0, 3, 10, 1);
        Due.is(3, () -> x.claimAgreed(0, 11));
        x.claimOpinion(31, 0, 0, 9, 9);
        Due.is(0, () -> x.claimAgreed(0, 11));
        // A person's later opinion counts, though its rank be lower.
        x.claimOpinion(31, 0, 99, 11, 0);
        Due.is(0, () -> x.claimAgreed(0, 10));
        Due.is(3, () -> x.claimAgreed(0, 11));
        Due.is(1, () -> x.claimRule(0, 2));
        Due.is(2, () -> x.claimRule(0, 0));
        Due.argument(() -> x.claimRule(0, 3));
        Due.argument(() -> x.claimRule(0, -1));
        Due.is(0, () -> x.claimRule(0, 0));
    }

    /** All: the value of all, or a tie. */
    private static void agreedByAll() {
        DigHouse x = held();
        x.claimRule(0, 2);
        Due.is(-1, () -> x.claimAgreed(0, 10));
        x.claimOpinion(0, 0, 0, 10, 0);
        Due.is(0, () -> x.claimAgreed(0, 10));
        for (int p = 1; p < 32; p++) {
            x.claimOpinion(p, 0, 0, 10, p % 10);
        }
        Due.is(0, () -> x.claimAgreed(0, 10));
        x.claimOpinion(31, 0, 1, 11, 0);
        Due.is(0, () -> x.claimAgreed(0, 10));
        Due.is(-2, () -> x.claimAgreed(0, 11));
        x.claimOpinion(0, 0, 1, 10, 0);
        Due.is(-2, () -> x.claimAgreed(0, 10));
    }

    private static void dissenters(DigHouse x, int day, int... due) {
        for (int k = 0; k < due.length; k++) {
            int at = k;
            Due.is(due[k], () -> x.claimDissent(0, day, at));
        }
        Due.is(-1, () -> x.claimDissent(0, day, due.length));
        Due.is(-1, () -> x.claimDissent(0, day, MAX));
    }

    /** Those whose known opinion is another one; with nothing agreed, all with a known opinion. */
    private static void dissent() {
        DigHouse x = held();
        dissenters(x, 10);
        x.claimOpinion(31, 0, 0, 0, 0);
        dissenters(x, 9, 31);
        dissenters(x, 10);
        x.claimOpinion(0, 0, 1, 0, 0);
        dissenters(x, 10, 0, 31);
        x.claimOpinion(5, 0, 1, 10, 0);
        dissenters(x, 10, 31);
        dissenters(x, 9, 0, 31);
        x.claimRule(0, 2);
        dissenters(x, 10, 0, 5, 31);
        DigHouse y = held();
        for (int p = 0; p < 32; p++) {
            y.claimOpinion(p, 0, p == 16 ? 0 : 99, 0, 0);
        }
        dissenters(y, 10, 16);
        Due.is(31, () -> y.claimDissent(0, 9, 31));
        Due.is(-1, () -> y.claimDissent(0, 9, 32));
    }
}
