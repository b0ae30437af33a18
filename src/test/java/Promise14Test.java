/** termClash, termDays, termFee, termLetter, termCount; roomSize, roomWall, roomGoods, roomRow, roomMachine, roomDegrees. */
public final class Promise14Test {
    public static void main(String[] args) {
        clashes();
        letters();
        sizes();
        walls();
        goods();
        goodsRows();
        machines();
        bands();
        Due.end();
    }

    private static int read(DigHouse x, String text) {
        for (char c : text.toCharArray()) {
            x.termUnit(c);
        }
        return x.termRead();
    }

    private static DigHouse lending() {
        DigHouse x = new DigHouse();
        x.context();
        for (int o = 0; o < 2; o++) {
            x.find(0, 0, -1);
            x.object(o, 1, 1, 1, 1);
        }
        read(x, "z=1;y<1");
        return x;
    }

    private static void clashes() {
        DigHouse x = lending();
        Due.is(-1, () -> x.termClash(0, 0));
        x.lend(0, 0, 5, 9);
        x.lend(0, 1, 0, 100);
        x.termRequest(0, 9, 10);
        x.termRequest(15, 0, 100000);
        x.termRequest(0, 10, 20);
        x.termRequest(0, 0, 4);
        x.termRequest(1, 100, 100);
        x.lend(0, 0, 20, 20);
        int[][] due = {{0, 2}, {0, 100}, {2, 102}, {4, 101}, {-1, -1}};
        for (int k = 0; k < 5; k++) {
            int at = k;
            Due.is(due[k][0], () -> x.termClash(at, 0));
            Due.is(due[k][1], () -> x.termClash(at, 1));
        }
        x.termRequest(14, 10, 20);
        x.termRequest(14, 21, 30);
        x.termRequest(14, 5, 9);
        Due.is(-1, () -> x.termClash(4, 0));
        x.termRequest(14, 20, 21);
        Due.is(5, () -> x.termClash(4, 0));
        Due.is(6, () -> x.termClash(5, 0));
        Due.is(8, () -> x.termClash(5, 1));
        x.termRequest(14, 0, 5);
        Due.is(7, () -> x.termClash(6, 0));
        Due.is(9, () -> x.termClash(6, 1));
        Due.is(-1, () -> x.termClash(7, 1));
        Due.index(() -> x.termClash(-1, 0));
        Due.index(() -> x.termClash(0, 2));
        Due.index(() -> x.termClash(0, -1));
    }

    private static void letters() {
        DigHouse x = lending();
        Due.index(() -> x.termDays(0));
        Due.index(() -> x.termFee(0));
        Due.index(() -> x.termLetter(0, -1));
        x.lend(0, 1, 0, 0);
        x.lend(0, 0, 0, 100000);
        Due.is(1, () -> x.termDays(0));
        Due.is(100001, () -> x.termDays(1));
        Due.is(5 + 40 + 300, () -> x.termFee(0));
        Due.is(500005 + 40 + 300, () -> x.termFee(1));
        letter(x, 1, "#1@0:0-100000=500345");
        x.termShield(0, true);
        Due.is(45, () -> x.termFee(0));
        x.hour(0, 0);
        x.pass(1);
        x.hour(0, 0);
        letter(x, 1, "#1@0:0-100000=500445!0!1");
        letter(x, 0, "#0@1:0-0=45");
        Due.index(() -> x.termLetter(2, -1));
        int[] counts = {0, 1, 2, 0, 0};
        for (int what = 0; what < 5; what++) {
            int w = what;
            Due.is(counts[what], () -> x.termCount(w));
        }
        Due.index(() -> x.termCount(5));
        Due.index(() -> x.termCount(-1));
        x.place(-1, 5);
        x.room(0);
        x.hour(0, 0);
        Due.is(2, () -> x.termCount(4));
    }

    private static void letter(DigHouse x, int loan, String due) {
        Due.is(due.length(), () -> x.termLetter(loan, -1));
        for (int i = 0; i < due.length(); i++) {
            int at = i;
            Due.is(due.charAt(i), () -> x.termLetter(loan, at));
        }
        Due.index(() -> x.termLetter(loan, due.length()));
        Due.index(() -> x.termLetter(loan, -2));
    }

    private static DigHouse room() {
        DigHouse x = new DigHouse();
        x.place(-1, 100);
        x.room(0);
        return x;
    }

    private static void sizes() {
        DigHouse x = room();
        Due.element(() -> x.roomSize(1, 0, 0));
        Due.argument(() -> x.roomSize(0, 0, 0));
        Due.argument(() -> x.roomSize(0, 1001, 0));
        Due.argument(() -> x.roomSize(0, 1, -1));
        Due.argument(() -> x.roomSize(0, 1, 1001));
        x.roomSize(0, 1000, 1000);
        Due.is(2000, () -> x.roomDegrees(0));
        Due.is(1000, () -> x.roomDamp(0));
        Due.is(2000000, () -> x.roomBook(0, -1, 0));
        x.hour(-333, 77);
        Due.is(-333, () -> x.roomDegrees(0));
        Due.is(77, () -> x.roomDamp(0));
        x.roomSize(0, 7, 3);
        Due.is(Math.floorDiv(-333000, 7), () -> x.roomDegrees(0));
        x.hour(-50000, 0);
        long in = Math.floorDiv(3L * (-50000 + 47572) * 7, 1000);
        Due.is(-333000 + in, () -> x.roomBook(0, -1, 0));
        Due.element(() -> x.roomDegrees(1));
        Due.element(() -> x.roomDegrees(-1));
    }

    private static void walls() {
        DigHouse x = room();
        Due.element(() -> x.roomWall(1, -1, 0));
        Due.argument(() -> x.roomWall(0, -1, 1));
        Due.argument(() -> x.roomWall(0, 101, 1));
        Due.argument(() -> x.roomWall(0, 0, 0));
        Due.argument(() -> x.roomWall(0, 0, 1001));
        x.roomSize(0, 100, 0);
        Due.is(0, () -> x.roomWall(0, 50, 10));
        Due.is(1, () -> x.roomWall(0, 100, 1));
        x.hour(0, 0);
        Due.is(20000, () -> x.roomDegrees(0));
        Due.is(0, () -> x.roomLayer(0, 1));
        x.hour(0, 0);
        Due.is(18000, () -> x.roomLayer(0, 0));
        Due.is(0, () -> x.roomLayer(0, 1));
        x.hour(-7, 0);
        Due.is(-1000, () -> x.roomBook(0, 1, 0));
        Due.is(19990, () -> x.roomDegrees(0));
        Due.is((180000 + 1000 - 18100) / 10, () -> x.roomLayer(0, 0));
        for (int k = 2; k < 5; k++) {
            int layer = k;
            Due.is(layer, () -> x.roomWall(0, 0, 1000));
        }
        Due.state(() -> x.roomWall(0, 0, 1));
        Due.state(() -> x.roomWall(0, -1, 1));
        Due.is(5, () -> x.roomCount(0, 1));
    }

    private static void goods() {
        DigHouse x = room();
        Due.element(() -> x.roomGoods(1, -1));
        Due.argument(() -> x.roomGoods(0, -1));
        Due.argument(() -> x.roomGoods(0, 1001));
        Due.is(0, () -> x.roomGoods(0, 1000));
        Due.is(1000, () -> x.roomGoods(0, 3));
        x.roomSize(0, 100, 0);
        x.hour(0, 0);
        Due.is(0, () -> x.roomHeld(0));
        x.roomRow(0, 5000, 1);
        x.roomRow(0, 10000, 7);
        x.roomRow(0, 20000, 9);
        x.hour(0, 0);
        Due.is(5, () -> x.roomHeld(0));
        Due.is(-5, () -> x.roomBook(0, 2, 1));
        x.roomGoods(0, 0);
        Due.is(5, () -> x.roomHeld(0));
        x.hour(0, 0);
        Due.is(3, () -> x.roomHeld(0));
        x.hour(0, 0);
        Due.is(2, () -> x.roomHeld(0));
        Due.is(999998, () -> x.roomBook(0, -1, 1));
        x.roomGoods(0, 1000);
        x.roomSize(0, 1, 0);
        x.hour(0, 0);
        Due.is(2 + (9000 - 2) / 4, () -> x.roomHeld(0));
    }

    private static void goodsRows() {
        DigHouse x = room();
        Due.element(() -> x.roomRow(1, -1, 0));
        Due.argument(() -> x.roomRow(0, -1, 0));
        Due.argument(() -> x.roomRow(0, 60001, 0));
        Due.argument(() -> x.roomRow(0, 0, -1));
        Due.argument(() -> x.roomRow(0, 0, 10001));
        Due.is(0, () -> x.roomRow(0, 0, 10000));
        Due.argument(() -> x.roomRow(0, 0, 0));
        for (int r = 1; r < 6; r++) {
            int row = r;
            Due.is(row, () -> x.roomRow(0, row, 0));
        }
        Due.state(() -> x.roomRow(0, 60000, 0));
        Due.state(() -> x.roomRow(0, 0, 0));
        Due.is(6, () -> x.roomCount(0, 2));
        DigHouse y = room();
        y.roomSize(0, 1, 0);
        y.roomRow(0, 60000, 10000);
        y.roomGoods(0, 1000);
        y.hour(0, 0);
        Due.is(0, () -> y.roomBook(0, -1, 1));
        Due.is(1000000, () -> y.roomHeld(0));
    }

    private static void machines() {
        DigHouse x = room();
        Due.element(() -> x.roomMachine(1, 9, 1, 0, -1));
        Due.index(() -> x.roomMachine(0, 4, 1, 0, -1));
        Due.index(() -> x.roomMachine(0, -1, 1, 0, -1));
        Due.argument(() -> x.roomMachine(0, 0, 1, 0, 0));
        Due.argument(() -> x.roomMachine(0, 0, -60001, 0, 0));
        Due.argument(() -> x.roomMachine(0, 0, 0, 60001, 0));
        Due.argument(() -> x.roomMachine(0, 0, 0, 0, -1));
        Due.argument(() -> x.roomMachine(0, 0, 0, 0, 100001));
        x.roomSize(0, 100, 0);
        x.roomMachine(0, 0, 20001, 20003, 200);
        int[] warmer = {20002, 20004, 20004, 20004};
        for (int h = 0; h < 4; h++) {
            x.hour(0, 0);
            int due = warmer[h];
            Due.is(due, () -> x.roomDegrees(0));
        }
        Due.no(() -> x.roomOn(0, 0));
        x.roomMachine(0, 0, 20004, 20004, 1);
        x.roomMachine(0, 1, 20003, 20003, 200);
        x.hour(0, 0);
        Due.is(20002, () -> x.roomDegrees(0));
        Due.yes(() -> x.roomOn(0, 1));
        x.hour(0, 0);
        Due.no(() -> x.roomOn(0, 1));
        Due.is(20002, () -> x.roomDegrees(0));
        Due.is(2000201, () -> x.roomBook(0, -1, 0));
        x.roomMachine(0, 2, 10001, 10001, 100);
        x.hour(0, 0);
        Due.is(10001, () -> x.roomDamp(0));
        x.roomMachine(0, 3, 0, 0, 100000);
        for (int h = 0; h < 11; h++) {
            x.hour(0, 0);
        }
        Due.yes(() -> x.roomOn(0, 3));
        Due.is(0, () -> x.roomBook(0, -1, 1));
        x.roomMachine(0, 3, 0, 0, 100000);
        Due.no(() -> x.roomOn(0, 3));
    }

    /** At the ends of its band a machine stays as it is. */
    private static void bands() {
        DigHouse x = room();
        x.roomSize(0, 100, 0);
        x.roomMachine(0, 0, 20000, 20000, 100);
        x.hour(0, 0);
        Due.no(() -> x.roomOn(0, 0));
        x.roomMachine(0, 0, 20001, 20001, 100);
        on(x, 0, true, true, false);
        x.roomMachine(0, 0, -60000, 60000, 0);
        x.roomMachine(0, 1, 20002, 20002, 100);
        on(x, 1, false, false);
        x.roomMachine(0, 1, 20001, 20001, 100);
        on(x, 1, true, true, false);
        x.roomMachine(0, 2, 10001, 10001, 100);
        on(x, 2, true, true, false);
        x.roomMachine(0, 2, 0, 60000, 0);
        x.roomMachine(0, 3, 10001, 10001, 100);
        on(x, 3, true, true, false);
        Due.is(10000, () -> x.roomDamp(0));
        Due.is(20000, () -> x.roomDegrees(0));
    }

    private static void on(DigHouse x, int kind, boolean... due) {
        for (boolean on : due) {
            x.hour(0, 0);
            Due.compare(String.valueOf(on), String.valueOf(x.roomOn(0, kind)));
        }
    }
}
