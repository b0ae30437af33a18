/** methodReason, methodRow, methodStock, methodAbout, methodApart, methodPut, methodPlan, methodStep, methodCount; claimUnit, claimClear. */
public final class Promise17Test {
    public static void main(String[] args) {
        reasons();
        after();
        rows();
        stocks();
        shelves();
        plans();
        longPlans();
        claimPad();
        Due.end();
    }

    private static DigHouse house(String... texts) {
        DigHouse x = new DigHouse();
        x.context();
        for (int o = 0; o < 2; o++) {
            x.find(0, 0, -1);
            x.object(o, 1, 1, 1, 1);
        }
        for (String text : texts) {
            for (char c : text.toCharArray()) {
                x.methodUnit(c);
            }
            x.methodRead();
        }
        return x;
    }

    private static void reasons() {
        DigHouse x = house("b3,b5,x1,a2:0,t,u4*7,u2*1", "", "");
        Due.index(() -> x.methodReason(2, 9, 9, -1));
        Due.index(() -> x.methodReason(0, 3, 0, -1));
        Due.index(() -> x.methodReason(0, 0, 8, -1));
        Due.argument(() -> x.methodReason(0, 0, 7, -1));
        Due.argument(() -> x.methodReason(0, 0, 7, 1000001));
        x.methodPart(0, 7);
        x.methodPart(0, 5);
        x.methodPart(0, 3);
        x.methodPart(1, 7);
        x.methodPart(1, 6);
        x.methodRight(0, 1, true);
        x.methodRight(0, 2, true);
        Due.is(101, () -> x.methodReason(0, 0, 0, 0));
        Due.is(302, () -> x.methodReason(1, 0, 0, 0));
        x.treat(1, 2, 0, 0);
        Due.is(406, () -> x.methodReason(1, 0, 0, 0));
        x.methodTrial(0, 6, true);
        Due.is(407, () -> x.methodReason(1, 0, 0, 0));
        x.methodTrial(0, 7, true);
        Due.is(502, () -> x.methodReason(1, 0, 0, 0));
        x.methodStock(2, 1);
        x.methodStock(4, 6);
        Due.is(504, () -> x.methodReason(1, 0, 0, 0));
        x.methodStock(4, 1);
        Due.is(600, () -> x.methodReason(1, 0, 0, 0));
        x.methodRight(0, 0, true);
        Due.is(0, () -> x.methodReason(1, 0, 0, 0));
        x.treat(1, 1, 0, 0);
        Due.is(201, () -> x.methodReason(1, 0, 0, 0));
        Due.is(101, () -> x.methodReason(0, 0, 0, 0));
        Due.is(7, () -> x.methodUses(0, 4));
    }

    private static void after() {
        DigHouse x = house("a1:2,a1:5,a11:0", "", "a1:5,a1:2", "x3");
        x.methodRight(0, 1, true);
        x.methodRight(0, 2, true);
        x.methodRight(0, 3, true);
        Due.is(301, () -> x.methodReason(0, 2, 0, 1000000));
        x.hour(0, 0);
        x.treat(0, 1, 0, 0);
        Due.is(301, () -> x.methodReason(0, 2, 0, 5));
        Due.is(0, () -> x.methodReason(0, 2, 0, 6));
        Due.is(301, () -> x.methodReason(0, 2, 0, 0));
        Due.is(311, () -> x.methodReason(0, 0, 0, 6));
        x.hour(0, 0);
        x.treat(0, 1, 0, 0);
        Due.is(301, () -> x.methodReason(0, 2, 0, 6));
        Due.is(0, () -> x.methodReason(0, 2, 0, 7));
        Due.is(0, () -> x.treat(0, 3, 0, 0));
        Due.is(203, () -> x.treat(0, 3, 0, 0));
    }

    private static void rows() {
        DigHouse x = house("i", "");
        Due.index(() -> x.methodRow(2, -1, 0));
        Due.index(() -> x.methodRow(0, 0, 0));
        Due.index(() -> x.methodRow(0, -2, 0));
        Due.index(() -> x.methodRow(0, -1, 4));
        x.methodRight(3, 0, true);
        x.methodRight(4, 0, true);
        x.methodRight(3, 1, true);
        x.treat(0, 0, 3, 4);
        x.hour(0, 0);
        x.treat(0, 1, 3, 4);
        int[][] due = {{0, 0, 3, 4}, {1, 1, 3, -1}};
        for (int k = 0; k < 2; k++) {
            for (int what = 0; what < 4; what++) {
                int row = k;
                int w = what;
                Due.is(due[k][what], () -> x.methodRow(0, row, w));
            }
        }
        Due.is(2, () -> x.methodRow(0, -1, 3));
        Due.is(0, () -> x.methodRow(1, -1, 0));
        Due.index(() -> x.methodRow(0, 1, -1));
        Due.index(() -> x.methodRow(0, 2, 0));
        Due.is(2, () -> x.methodCount(3));
    }

    private static void stocks() {
        DigHouse x = house("u11*30");
        Due.index(() -> x.methodStock(12, 1000001));
        Due.index(() -> x.methodStock(-1, 0));
        Due.argument(() -> x.methodStock(11, 1000001));
        Due.argument(() -> x.methodStock(11, -1000001));
        Due.is(-1, () -> x.methodStock(11, -1));
        Due.is(1000000, () -> x.methodStock(11, 1000000));
        Due.is(-1, () -> x.methodStock(11, 1));
        Due.is(999990, () -> x.methodStock(11, -10));
        x.methodRight(0, 0, true);
        x.treat(0, 0, 0, 0);
        long[] due = {999960, 1000000, 40, -1};
        for (int what = 0; what < 4; what++) {
            int w = what;
            Due.is(due[what], () -> x.methodAbout(11, w));
        }
        for (int i = 0; i < 100; i++) {
            x.methodStock(0, 1000000);
            x.methodStock(0, -1000000);
        }
        Due.is(100000000, () -> x.methodAbout(0, 1));
        Due.is(100000000, () -> x.methodAbout(0, 2));
        Due.index(() -> x.methodAbout(12, 0));
        Due.index(() -> x.methodAbout(0, 4));
        Due.index(() -> x.methodAbout(0, -1));
    }

    private static void shelves() {
        DigHouse x = house();
        Due.index(() -> x.methodPut(12, 0));
        Due.index(() -> x.methodPut(0, 6));
        Due.index(() -> x.methodPut(0, -2));
        Due.index(() -> x.methodApart(0, 12));
        Due.no(() -> x.methodApart(3, 3));
        Due.is(0, () -> x.methodPut(3, 5));
        Due.is(0, () -> x.methodPut(4, 5));
        Due.no(() -> x.methodApart(3, 4));
        Due.is(0, () -> x.methodPut(4, -1));
        Due.yes(() -> x.methodApart(3, 4));
        Due.yes(() -> x.methodApart(4, 3));
        Due.is(4, () -> x.methodPut(4, 5));
        Due.is(-1, () -> x.methodAbout(4, 3));
        Due.is(0, () -> x.methodPut(4, 4));
        Due.yes(() -> x.methodApart(2, 4));
        Due.is(0, () -> x.methodPut(2, 5));
        Due.is(3, () -> x.methodPut(4, 5));
        Due.is(4, () -> x.methodAbout(4, 3));
        Due.is(0, () -> x.methodPut(4, 4));
        Due.yes(() -> x.methodApart(0, 1));
        Due.is(0, () -> x.methodPut(0, -1));
        Due.is(0, () -> x.methodPut(1, -1));
        Due.is(0, () -> x.methodPut(0, 0));
        Due.is(1, () -> x.methodPut(1, 0));
    }

    private static void plan(DigHouse x, int set, int... due) {
        Due.is(due.length, () -> x.methodPlan(0, set));
        steps(x, due);
    }

    private static void steps(DigHouse x, int... due) {
        for (int k = 0; k < due.length; k++) {
            int at = k;
            Due.is(due[k], () -> x.methodStep(at));
        }
        Due.index(() -> x.methodStep(due.length));
        Due.index(() -> x.methodStep(-1));
        Due.is(due.length, () -> x.methodCount(4));
    }

    private static void plans() {
        DigHouse x = house("a3:9", "x0", "", "", "b6", "a11:0", "x2,a2:0", "x6");
        steps(x);
        Due.index(() -> x.methodPlan(2, 0));
        Due.index(() -> x.methodPlan(0, 1 << 8));
        Due.index(() -> x.methodPlan(0, -1));
        plan(x, 0);
        plan(x, 1, 3, 0);
        plan(x, 3, 1, 3, 0);
        plan(x, 7, 1, 2, 3, 0);
        Due.is(-1, () -> x.methodPlan(0, 1 << 5));
        Due.is(-1, () -> x.methodPlan(0, 1 << 6));
        steps(x, 1, 2, 3, 0);
        plan(x, 1 << 4, 4);
        x.methodPart(0, 6);
        Due.is(-1, () -> x.methodPlan(0, 1 << 4));
        x.methodRight(0, 3, true);
        x.methodRight(0, 0, true);
        x.treat(0, 3, 0, 0);
        plan(x, 9, 0);
        x.pass(1);
        Due.is(0, () -> x.treat(0, 0, 0, 0));
        Due.is(-1, () -> x.methodPlan(0, 2));
        plan(x, 1);
        int[] counts = {0, 8, 2, 2, 0};
        for (int what = 0; what < 5; what++) {
            int w = what;
            Due.is(counts[what], () -> x.methodCount(w));
        }
        Due.index(() -> x.methodCount(5));
        Due.index(() -> x.methodCount(-1));
    }

    /** Ten steps may be planned, eleven not; those that are not there count, too. */
    private static void longPlans() {
        DigHouse x = house("", "a0:0", "a1:0", "a2:0", "a3:0", "a4:0", "a5:0", "a6:0", "a7:0", "a8:0");
        plan(x, 1 << 9, 0, 1, 2, 3, 4, 5, 6, 7, 8, 9);
        DigHouse y = house("a10:0", "a0:0", "a1:0", "a2:0", "a3:0", "a4:0", "a5:0", "a6:0", "a7:0", "a8:0");
        Due.is(-2, () -> y.methodPlan(0, 1 << 9));
        Due.is(-1, () -> y.methodPlan(0, 1 << 8));
        DigHouse z = house("a1:0", "a0:0");
        Due.is(-1, () -> z.methodPlan(0, 1));
    }

    private static void claimPad() {
        DigHouse x = house();
        Due.argument(() -> x.claimUnit(0));
        Due.argument(() -> x.claimUnit(128));
        Due.argument(() -> x.claimUnit(-1));
        Due.is(0, () -> x.claimClear());
        for (int i = 1; i <= 60; i++) {
            int count = i;
            Due.is(count, () -> x.claimUnit(count * 2));
        }
        Due.state(() -> x.claimUnit(1));
        Due.argument(() -> x.claimUnit(0));
        Due.is(60, () -> x.claimClear());
        Due.is(0, () -> x.claimCount(0));
        Due.is(1, () -> x.claimUnit(127));
    }
}
