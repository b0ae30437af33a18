import java.util.function.Supplier;

/** The edges of promise 17: methodReason up to methodCount, claimUnit, claimClear. */
public final class Edges17Test {
    private static final int MIN = Integer.MIN_VALUE;
    private static final int MAX = Integer.MAX_VALUE;

    public static void main(String[] args) {
        bounds();
        reasons();
        orderOfReasons();
        afterHours();
        rows();
        stocks();
        shelves();
        plans();
        mostSteps();
        noOrders();
        counts();
        claimPads();
        Due.end();
    }

    private static DigHouse methods() {
        DigHouse x = Houses.methods(10, 12, "");
        x.methodRight(7, 11, true);
        for (int k = 0; k < 30; k++) {
            x.treat(9, 11, 7, 0);
        }
        return x;
    }

    private static DigHouse pad(int signs) {
        DigHouse x = new DigHouse();
        Houses.signs(Houses.repeated("!", signs), x::claimUnit);
        return x;
    }

    private static void bounds() {
        Supplier<DigHouse> house = Edges17Test::methods;
        Bounds.of(house, "methodReason", 3, 4, 5, 60).index(0, 0, 9).index(1, 0, 11).index(2, 0, 7).argument(3, 0, 1000000).hold();
        Bounds.of(house, "methodRow", 9, 3, 1).fixed(0).index(1, -1, 29).index(2, 0, 3).hold();
        Bounds.of(house, "methodRow", 3, -1, 1).index(0, 0, 9).index(1, -1, -1).index(2, 0, 3).hold();
        Bounds.of(house, "methodStock", 3, 0).index(0, 0, 11).argument(1, -1000000, 1000000).hold();
        Bounds.of(house, "methodAbout", 3, 1).index(0, 0, 11).index(1, 0, 3).hold();
        Bounds.of(house, "methodApart", 3, 4).index(0, 0, 11).index(1, 0, 11).hold();
        Bounds.of(house, "methodPut", 3, 4).index(0, 0, 11).index(1, -1, 5).hold();
        Bounds.of(house, "methodPlan", 3, 4).index(0, 0, 9).index(1, 0, 4095).hold();
        Bounds.of(() -> {
            DigHouse x = Houses.methods(1, 12, "");
            x.methodPlan(0, 7);
            return x;
        }, "methodStep", 1).index(0, 0, 2).hold();
        Bounds.of(house, "methodCount", 3).index(0, 0, 4).hold();
        Bounds.of(() -> pad(59), "claimUnit", 50).argument(0, 1, 127).hold().full(() -> pad(60));
        Bounds.of(DigHouse::new, "claimUnit", 50).argument(0, 1, 127).hold();
        Bounds.of(() -> pad(60), "claimClear").hold();
        DigHouse none = new DigHouse();
        Due.index(() -> none.methodReason(0, 0, 0, -1));
        Due.index(() -> none.methodRow(0, -1, 0));
        Due.index(() -> none.methodPlan(0, 0));
        Due.index(() -> none.methodStep(0));
        DigHouse some = Houses.objects(1);
        Due.index(() -> some.methodReason(0, 0, 0, 0));
        Due.is(0, () -> some.methodPlan(0, 0));
        Due.index(() -> some.methodPlan(0, 1));
        Due.index(() -> some.methodStep(0));
    }

    /** The first part whose material is barred, the lowest method, material, good: at the ends of their numbers. */
    private static void reasons() {
        DigHouse x = Houses.objects(2);
        Houses.method(x, "b9,b0");
        Houses.method(x, "x11,x0");
        Houses.method(x, "a11:0,a0:0");
        Houses.method(x, "t");
        Houses.method(x, "u11*2,u0*3");
        for (int m = 5; m < 12; m++) {
            Houses.method(x, "");
        }
        for (int m = 0; m < 12; m++) {
            x.methodRight(0, m, true);
        }
        for (int k = 0; k < 7; k++) {
            x.methodPart(0, 5);
        }
        Due.is(0, () -> x.methodReason(0, 0, 0, 0));
        x.methodPart(0, 9);
        Due.is(107, () -> x.methodReason(0, 0, 0, 0));
        x.methodPart(1, 0);
        x.methodPart(1, 9);
        Due.is(100, () -> x.methodReason(1, 0, 0, 0));
        Due.is(0, () -> x.methodReason(0, 1, 0, 0));
        Due.is(300, () -> x.methodReason(0, 2, 0, 0));
        x.treat(0, 11, 0, 0);
        Due.is(211, () -> x.methodReason(0, 1, 0, 0));
        Due.is(300, () -> x.methodReason(0, 2, 0, 0));
        Due.is(0, () -> x.methodReason(1, 1, 0, 0));
        Due.is(405, () -> x.methodReason(0, 3, 0, 0));
        x.methodTrial(3, 5, true);
        Due.is(409, () -> x.methodReason(0, 3, 0, 0));
        x.methodTrial(3, 9, true);
        Due.is(0, () -> x.methodReason(0, 3, 0, 0));
        Due.is(400, () -> x.methodReason(1, 3, 0, 0));
        x.methodTrial(3, 9, false);
        Due.is(409, () -> x.methodReason(0, 3, 0, 0));
        Due.is(500, () -> x.methodReason(0, 4, 0, 0));
        x.methodStock(0, 3);
        Due.is(511, () -> x.methodReason(0, 4, 0, 0));
        x.methodStock(11, 1);
        Due.is(511, () -> x.methodReason(0, 4, 0, 0));
        x.methodStock(11, 1);
        Due.is(0, () -> x.methodReason(0, 4, 0, 0));
        Due.is(600, () -> x.methodReason(0, 4, 7, 0));
        Due.is(0, () -> x.methodReason(0, 11, 0, 1000000));
    }

    /** The first reason that holds, in this order. */
    private static void orderOfReasons() {
        DigHouse x = Houses.objects(1);
        Houses.method(x, "");
        Houses.method(x, "b1,x0,a2:1,t,u0*1");
        Houses.method(x, "");
        x.methodRight(0, 0, true);
        x.methodRight(0, 2, true);
        x.methodPart(0, 1);
        x.treat(0, 0, 0, 0);
        Due.is(100, () -> x.methodReason(0, 1, 0, 0));
        DigHouse y = Houses.objects(2);
        Houses.method(y, "");
        Houses.method(y, "x0,a2:1,t,u0*1");
        Houses.method(y, "");
        y.methodRight(0, 0, true);
        y.methodRight(0, 2, true);
        y.methodPart(0, 1);
        y.methodPart(1, 1);
        y.treat(0, 0, 0, 0);
        Due.is(200, () -> y.methodReason(0, 1, 0, 0));
        Due.is(302, () -> y.methodReason(1, 1, 0, 0));
        y.treat(1, 2, 0, 0);
        Due.is(302, () -> y.methodReason(1, 1, 0, 0));
        Due.is(401, () -> y.methodReason(1, 1, 0, 1));
        y.methodTrial(1, 1, true);
        Due.is(500, () -> y.methodReason(1, 1, 0, 1));
        y.methodStock(0, 1);
        Due.is(600, () -> y.methodReason(1, 1, 0, 1));
        y.methodRight(0, 1, true);
        Due.is(0, () -> y.methodReason(1, 1, 0, 1));
        // A method that may not come behind itself, and one that comes after itself.
        DigHouse z = Houses.objects(1);
        Houses.method(z, "x0");
        Houses.method(z, "a1:0");
        z.methodRight(0, 0, true);
        z.methodRight(0, 1, true);
        Due.is(0, () -> z.treat(0, 0, 0, 0));
        Due.is(200, () -> z.treat(0, 0, 0, 0));
        Due.is(301, () -> z.treat(0, 1, 0, 0));
    }

    /** At least so many hours behind the latest: just as many suffice; the hours of several clauses hold together. */
    private static void afterHours() {
        DigHouse x = Houses.objects(1);
        Houses.method(x, "");
        Houses.method(x, "a0:0");
        Houses.method(x, "a0:9999,a0:5");
        Houses.method(x, "a0:1,a9:0");
        for (int m = 0; m < 4; m++) {
            x.methodRight(0, m, true);
        }
        Due.is(300, () -> x.methodReason(0, 1, 0, 1000000));
        x.pass(1);
        x.treat(0, 0, 0, 0);
        Due.is(0, () -> x.methodReason(0, 1, 0, 24));
        Due.is(300, () -> x.methodReason(0, 1, 0, 23));
        Due.is(300, () -> x.methodReason(0, 1, 0, 0));
        Due.is(300, () -> x.methodReason(0, 2, 0, 24 + 9998));
        Due.is(0, () -> x.methodReason(0, 2, 0, 24 + 9999));
        Due.is(300, () -> x.methodReason(0, 3, 0, 24));
        Due.is(309, () -> x.methodReason(0, 3, 0, 25));
        x.pass(1);
        x.treat(0, 0, 0, 0);
        // Its latest counts.
        Due.is(300, () -> x.methodReason(0, 2, 0, 24 + 9999));
        Due.is(300, () -> x.methodReason(0, 2, 0, 48 + 9998));
        Due.is(0, () -> x.methodReason(0, 2, 0, 48 + 9999));
    }

    private static void rows() {
        DigHouse x = Houses.objects(2);
        Houses.method(x, "i");
        Houses.method(x, "");
        for (int p = 0; p < 8; p++) {
            x.methodRight(p, 0, true);
            x.methodRight(p, 1, true);
        }
        Due.is(0, () -> x.methodRow(0, -1, 3));
        Due.index(() -> x.methodRow(0, 0, 0));
        x.treat(0, 0, 0, 7);
        x.pass(1000);
        x.treat(0, 1, 7, 7);
        int[][] due = {{0, 0, 0, 7}, {1, 24000, 7, -1}};
        for (int k = 0; k < 2; k++) {
            for (int what = 0; what < 4; what++) {
                int row = k;
                int w = what;
                Due.is(due[row][w], () -> x.methodRow(0, row, w));
                Due.is(2, () -> x.methodRow(0, -1, w));
            }
        }
        Due.index(() -> x.methodRow(0, 2, 0));
        Due.index(() -> x.methodRow(0, 0, 4));
        Due.index(() -> x.methodRow(1, 0, 0));
    }

    /** Stocks from 0 to 1000000; what came and what went are all that came and went. */
    private static void stocks() {
        DigHouse x = new DigHouse();
        Due.is(-1, () -> x.methodStock(11, -1));
        Due.is(0, () -> x.methodStock(11, 0));
        Due.is(1000000, () -> x.methodStock(11, 1000000));
        Due.is(-1, () -> x.methodStock(11, 1));
        Due.is(-1, () -> x.methodStock(11, 1000000));
        Due.is(0, () -> x.methodStock(11, -1000000));
        Due.is(-1, () -> x.methodStock(11, -1));
        Due.is(1000000, () -> x.methodAbout(11, 1));
        Due.is(1000000, () -> x.methodAbout(11, 2));
        Due.is(0, () -> x.methodAbout(11, 0));
        Due.is(-1, () -> x.methodAbout(11, 3));
        Due.argument(() -> x.methodStock(11, 1000001));
        Due.argument(() -> x.methodStock(11, -1000001));
        Due.index(() -> x.methodStock(12, 1000001));
        // All that came is no int any more.
        for (int i = 0; i < 250; i++) {
            x.methodStock(0, 1000000);
            x.methodStock(0, -1000000);
        }
        Due.is(250000000, () -> x.methodAbout(0, 1));
        Due.is(250000000, () -> x.methodAbout(0, 2));
        Due.is(999999, () -> x.methodStock(0, 999999));
        Due.is(1000000, () -> x.methodStock(0, 1));
    }

    /** Goods that are apart are never on the same shelf; NONE is no shelf. */
    private static void shelves() {
        DigHouse x = new DigHouse();
        Due.no(() -> x.methodApart(3, 3));
        Due.yes(() -> x.methodApart(0, 11));
        Due.yes(() -> x.methodApart(0, 11));
        Due.yes(() -> x.methodApart(11, 5));
        Due.is(0, () -> x.methodPut(11, 5));
        Due.is(12, () -> x.methodPut(0, 5));
        Due.is(-1, () -> x.methodAbout(0, 3));
        Due.is(12, () -> x.methodPut(5, 5));
        Due.is(0, () -> x.methodPut(0, 0));
        Due.is(0, () -> x.methodAbout(0, 3));
        Due.is(1, () -> x.methodPut(11, 0));
        Due.is(5, () -> x.methodAbout(11, 3));
        Due.is(0, () -> x.methodPut(5, 0));
        Due.is(1, () -> x.methodPut(11, 0));
        Due.is(0, () -> x.methodPut(0, -1));
        Due.is(6, () -> x.methodPut(11, 0));
        Due.is(0, () -> x.methodPut(11, -1));
        Due.is(0, () -> x.methodPut(0, 0));
        Due.no(() -> x.methodApart(0, 5));
        Due.no(() -> x.methodApart(5, 0));
        Due.is(0, () -> x.methodPut(5, 1));
        Due.yes(() -> x.methodApart(5, 0));
        Due.is(1, () -> x.methodPut(5, 0));
        // On no shelf two goods are not together.
        Due.yes(() -> x.methodApart(1, 2));
        Due.is(0, () -> x.methodPut(1, 5));
        Due.is(0, () -> x.methodPut(1, 5));
        Due.is(2, () -> x.methodPut(2, 5));
    }

    private static void order(DigHouse x, int set, int... due) {
        Due.is(due.length, () -> x.methodPlan(0, set));
        Due.is(due.length, () -> x.methodCount(4));
        for (int k = 0; k < due.length; k++) {
            int step = k;
            Due.is(due[k], () -> x.methodStep(step));
        }
        Due.index(() -> x.methodStep(due.length));
        Due.index(() -> x.methodStep(-1));
        Due.index(() -> x.methodStep(MAX));
    }

    /** The methods of the set and all after which they come, but not those that are done; the lowest where orders differ. */
    private static void plans() {
        DigHouse x = Houses.objects(1);
        Houses.method(x, "a11:5");
        Houses.method(x, "x0");
        Houses.method(x, "b3");
        for (int m = 3; m < 11; m++) {
            Houses.method(x, "");
        }
        Houses.method(x, "a4:9999");
        order(x, 0);
        order(x, 1 << 11, 4, 11);
        order(x, 1, 4, 11, 0);
        order(x, 3, 1, 4, 11, 0);
        order(x, 7, 1, 2, 4, 11, 0);
        order(x, 2, 1);
        order(x, 1 << 3 | 1 << 5 | 1 << 10, 3, 5, 10);
        x.methodRight(0, 4, true);
        x.treat(0, 4, 0, 0);
        order(x, 1, 11, 0);
        order(x, 1 << 4);
        order(x, 1 << 4 | 1 << 9, 9);
        x.methodPart(0, 3);
        order(x, 1 << 9, 9);
        Due.is(-1, () -> x.methodPlan(0, 4));
        Due.is(-1, () -> x.methodPlan(0, 7));
        Due.is(1, () -> x.methodCount(4));
        Due.is(9, () -> x.methodStep(0));
    }

    /** Ten steps may be, eleven not: that is asked first; those that are done don't count. */
    private static void mostSteps() {
        DigHouse x = Houses.methods(1, 12, "");
        order(x, 1023, 0, 1, 2, 3, 4, 5, 6, 7, 8, 9);
        order(x, 4092, 2, 3, 4, 5, 6, 7, 8, 9, 10, 11);
        Due.is(-2, () -> x.methodPlan(0, 2047));
        Due.is(-2, () -> x.methodPlan(0, 4095));
        Due.is(10, () -> x.methodCount(4));
        Due.is(11, () -> x.methodStep(9));
        x.methodRight(0, 0, true);
        x.treat(0, 0, 0, 0);
        order(x, 2047, 1, 2, 3, 4, 5, 6, 7, 8, 9, 10);
        Due.is(-2, () -> x.methodPlan(0, 4095));
        // With those after which they come: ten of them that are not there yet.
        DigHouse y = Houses.objects(1);
        Houses.method(y, "a2:0,a3:0,a4:0,a5:0,a6:0,a7:0,a8:0,a9:0,a10:0");
        Houses.method(y, "a11:0");
        Due.is(-1, () -> y.methodPlan(0, 1));
        Due.is(-1, () -> y.methodPlan(0, 2));
        Due.is(-2, () -> y.methodPlan(0, 3));
        Due.index(() -> y.methodPlan(0, 4));
        Due.is(0, () -> y.methodCount(4));
        for (int m = 2; m < 12; m++) {
            Houses.method(y, "");
        }
        order(y, 1, 2, 3, 4, 5, 6, 7, 8, 9, 10, 0);
        order(y, 2, 11, 1);
        Due.is(-2, () -> y.methodPlan(0, 3));
    }

    /** No order: rings of what comes after what, with what may not come behind what, and what is done. */
    private static void noOrders() {
        DigHouse x = Houses.objects(1);
        Houses.method(x, "a1:0");
        Houses.method(x, "a0:0");
        Houses.method(x, "a2:0");
        Houses.method(x, "x4");
        Houses.method(x, "x3");
        Houses.method(x, "a6:0,x6");
        Houses.method(x, "");
        Houses.method(x, "x7");
        Houses.method(x, "x9");
        Houses.method(x, "a8:0");
        for (int m = 0; m < 10; m++) {
            x.methodRight(0, m, true);
        }
        order(x, 1 << 6, 6);
        for (int set : new int[] {1, 2, 3, 4, 1 << 3 | 1 << 4, 1 << 5}) {
            Due.is(-1, () -> x.methodPlan(0, set));
        }
        Due.is(1, () -> x.methodCount(4));
        order(x, 1 << 3, 3);
        order(x, 1 << 4, 4);
        // One that may not come behind itself may be planned once.
        order(x, 1 << 7, 7);
        order(x, 1 << 9, 8, 9);
        x.treat(0, 7, 0, 0);
        order(x, 1 << 7);
        x.treat(0, 3, 0, 0);
        Due.is(-1, () -> x.methodPlan(0, 1 << 4));
        order(x, 1 << 3);
        x.treat(0, 6, 0, 0);
        Due.is(-1, () -> x.methodPlan(0, 1 << 5));
    }

    private static void counts() {
        DigHouse x = methods();
        int[] due = {0, 12, 10, 30, 0};
        for (int what = 0; what < 5; what++) {
            int w = what;
            Due.is(due[w], () -> x.methodCount(w));
        }
        x.methodUnit('!');
        x.methodRight(0, 0, true);
        x.treat(0, 0, 0, 0);
        x.methodPlan(0, 6);
        int[] then = {1, 12, 10, 31, 2};
        for (int what = 0; what < 5; what++) {
            int w = what;
            Due.is(then[w], () -> x.methodCount(w));
        }
    }

    /** Sixty signs; the sign is asked ahead of that. */
    private static void claimPads() {
        DigHouse x = new DigHouse();
        Due.is(0, () -> x.claimClear());
        for (int i = 1; i <= 60; i++) {
            int count = i;
            Due.is(count, () -> x.claimUnit(count % 2 == 0 ? 1 : 127));
        }
        Due.argument(() -> x.claimUnit(0));
        Due.argument(() -> x.claimUnit(128));
        Due.argument(() -> x.claimUnit(MIN));
        Due.argument(() -> x.claimUnit(MAX));
        Due.state(() -> x.claimUnit(1));
        Due.is(60, () -> x.claimCount(0));
        Due.is(60, () -> x.claimClear());
        Due.is(0, () -> x.claimClear());
        Due.is(1, () -> x.claimUnit(127));
    }
}
