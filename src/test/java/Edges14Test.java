import java.util.function.Supplier;

/** The edges of promise 14: termClash up to termCount, roomSize up to roomDegrees. */
public final class Edges14Test {
    private static final int MIN = Integer.MIN_VALUE;
    private static final int MAX = Integer.MAX_VALUE;

    public static void main(String[] args) {
        bounds();
        clashes();
        daysAndFees();
        letters();
        termCounts();
        roomBounds();
        sizes();
        walls();
        goods();
        machines();
        machinesAtTheirBands();
        degrees();
        Due.end();
    }

    private static void bounds() {
        Supplier<DigHouse> loans = () -> Houses.loans(20);
        Bounds.of(loans, "termClash", 3, 1).index(0, 0, MAX).index(1, 0, 1).hold();
        Bounds.of(loans, "termDays", 3).index(0, 0, 19).hold();
        Bounds.of(loans, "termFee", 3).index(0, 0, 19).hold();
        // "#3@0:3-3=325", and "#19@0:19-19=325".
        Bounds.of(loans, "termLetter", 3, 5).index(0, 0, 19).index(1, -1, 11).hold();
        Bounds.of(loans, "termLetter", 19, 5).fixed(0).index(1, -1, 14).hold();
        Bounds.of(loans, "termCount", 3).index(0, 0, 4).hold();
        DigHouse none = new DigHouse();
        Due.index(() -> none.termDays(0));
        Due.index(() -> none.termFee(0));
        Due.index(() -> none.termLetter(0, -1));
        Due.is(-1, () -> none.termClash(0, 0));
        Due.is(-1, () -> none.termClash(MAX, 1));
    }

    private static void clash(DigHouse x, int... due) {
        for (int k = 0; 2 * k < due.length; k++) {
            int at = k;
            Due.is(due[2 * k], () -> x.termClash(at, 0));
            Due.is(due[2 * k + 1], () -> x.termClash(at, 1));
        }
        Due.is(-1, () -> x.termClash(due.length / 2, 0));
        Due.is(-1, () -> x.termClash(due.length / 2, 1));
    }

    /** One day together is a clash, days that follow one another are none; requests first, then loans. */
    private static void clashes() {
        DigHouse x = Houses.contracts(2, 1, "z<2");
        x.termRequest(0, 10, 20);
        clash(x);
        x.termRequest(0, 20, 30);
        clash(x, 0, 1);
        x.termRequest(0, 31, 31);
        x.termRequest(1, 0, 100000);
        clash(x, 0, 1);
        x.lend(0, 0, 5, 9);
        clash(x, 0, 1);
        x.lend(0, 0, 30, 31);
        clash(x, 0, 1, 1, 101, 2, 101);
        x.lend(0, 0, 10, 10);
        clash(x, 0, 1, 0, 102, 1, 101, 2, 101);
        x.termExtend(0, 9, 9);
        x.termRequest(0, 0, 100000);
        clash(x, 0, 1, 0, 4, 0, 102, 1, 4, 1, 101, 2, 4, 2, 101, 4, 100, 4, 101, 4, 102);
        // All requests of one thing, and all loans: pairs up to the last ones.
        DigHouse y = Houses.loans(20);
        for (int r = 0; r < 30; r++) {
            y.termRequest(0, 0, 100000);
        }
        int pairs = 30 * 29 / 2 + 30 * 20;
        Due.is(29, () -> y.termClash(pairs - 1, 0));
        Due.is(119, () -> y.termClash(pairs - 1, 1));
        Due.is(-1, () -> y.termClash(pairs, 0));
        Due.is(0, () -> y.termClash(28, 0));
        Due.is(29, () -> y.termClash(28, 1));
        Due.is(100, () -> y.termClash(29, 1));
        DigHouse z = new DigHouse();
        z.termRequest(15, 100000, 100000);
        z.termRequest(15, 100000, 100000);
        z.termRequest(14, 100000, 100000);
        clash(z, 0, 1);
    }

    private static void daysAndFees() {
        DigHouse x = Houses.contracts(3, 2, "z=1;z=1;z=1;z=1;z=1;z=1");
        x.lend(0, 0, 0, 0);
        x.lend(0, 1, 0, 100000);
        x.lend(0, 2, 99999, 100000);
        Due.is(1, () -> x.termDays(0));
        Due.is(100001, () -> x.termDays(1));
        Due.is(2, () -> x.termDays(2));
        Due.is(5 + 120 + 300, () -> x.termFee(0));
        Due.is(500005 + 120 + 300, () -> x.termFee(1));
        x.termShield(1, true);
        Due.is(500005 + 120, () -> x.termFee(1));
        x.hour(0, 0);
        Due.is(5 + 120 + 300 + 6 * 50, () -> x.termFee(0));
        Due.is(500005 + 120, () -> x.termFee(1));
        x.termShield(1, false);
        x.hour(0, 0);
        Due.is(500005 + 120 + 300 + 300, () -> x.termFee(1));
    }

    private static void letter(DigHouse x, int loan, String due) {
        StringBuilder got = new StringBuilder();
        for (int i = 0; i < x.termLetter(loan, -1); i++) {
            got.append((char) x.termLetter(loan, i));
        }
        Due.compare(due, got.toString());
        Due.index(() -> x.termLetter(loan, due.length()));
        Due.index(() -> x.termLetter(loan, MAX));
        Due.index(() -> x.termLetter(loan, -2));
        Due.index(() -> x.termLetter(loan, MIN));
    }

    private static void letters() {
        DigHouse x = Houses.contracts(10, 1, "z=1;y=0;z<2;y>0");
        for (int l = 0; l < 19; l++) {
            x.lend(0, 0, 50 + l, 50 + l);
        }
        letter(x, 0, "#0@0:50-50=385");
        x.lend(0, 9, 0, 100000);
        letter(x, 19, "#19@9:0-100000=500385");
        x.hour(0, 0);
        letter(x, 19, "#19@9:0-100000=500485!0!3");
        x.termShield(19, true);
        x.pass(1);
        x.hour(0, 0);
        letter(x, 19, "#19@9:0-100000=500235!0!3!1");
        x.termExtend(0, 50, 50);
        letter(x, 18, "#18@0:68-68=385");
    }

    private static void termCounts() {
        DigHouse x = Houses.contracts(1, 2, "z=1");
        int[] due = {0, 2, 0, 0, 0};
        for (int what = 0; what < 5; what++) {
            int w = what;
            Due.is(due[w], () -> x.termCount(w));
        }
        x.termUnit(33);
        x.lend(0, 0, 0, 0);
        x.termRequest(0, 0, 0);
        x.termRequest(0, 0, 0);
        x.place(-1, 1);
        x.room(0);
        x.hour(0, 0);
        x.hour(0, 0);
        int[] then = {1, 2, 1, 2, 4};
        for (int what = 0; what < 5; what++) {
            int w = what;
            Due.is(then[w], () -> x.termCount(w));
        }
    }

    private static DigHouse walls(int count) {
        DigHouse x = Houses.rooms();
        for (int k = 0; k < count; k++) {
            int layer = k;
            for (int r = 0; r < 4; r++) {
                int room = r;
                Due.is(layer, () -> x.roomWall(room, 100, 1));
            }
        }
        return x;
    }

    private static DigHouse goods(int count) {
        DigHouse x = Houses.rooms();
        for (int k = 0; k < count; k++) {
            int row = k;
            for (int r = 0; r < 4; r++) {
                int room = r;
                Due.is(row, () -> x.roomRow(room, 100 * row, 10000));
            }
        }
        return x;
    }

    private static void roomBounds() {
        Supplier<DigHouse> house = Houses::rooms;
        Bounds.of(house, "roomSize", 2, 50, 60).element(0, 0, 3).argument(1, 1, 1000).argument(2, 0, 1000).hold();
        Bounds.of(house, "roomWall", 2, 50, 60).element(0, 0, 3).argument(1, 0, 100).argument(2, 1, 1000).hold().full(() -> walls(5));
        Bounds.of(house, "roomGoods", 2, 50).element(0, 0, 3).argument(1, 0, 1000).hold();
        Bounds.of(house, "roomRow", 2, 50, 60).element(0, 0, 3).argument(1, 0, 60000).argument(2, 0, 10000).hold().full(() -> goods(6));
        Bounds.of(() -> goods(5), "roomRow", 2, 50000, 60).element(0, 0, 3).argument(1, 401, 60000).argument(2, 0, 10000).hold();
        Bounds.of(house, "roomMachine", 2, 3, 50, 60, 70).element(0, 0, 3).index(1, 0, 3).argument(2, -60000, 60).argument(3, 50, 60000)
            .argument(4, 0, 100000).hold();
        Bounds.of(house, "roomMachine", 2, 0, 60000, 60000, 0).element(0, 0, 3).index(1, 0, 3).argument(2, -60000, 60000)
            .argument(3, 60000, 60000).argument(4, 0, 100000).hold();
        Bounds.of(house, "roomMachine", 2, 0, -60000, -60000, 0).element(0, 0, 3).index(1, 0, 3).argument(2, -60000, -60000)
            .argument(3, -60000, 60000).argument(4, 0, 100000).hold();
        Bounds.of(house, "roomDegrees", 2).element(0, 0, 3).hold();
        DigHouse none = new DigHouse();
        none.place(-1, 1);
        Due.element(() -> none.roomSize(0, 0, -1));
        Due.element(() -> none.roomWall(0, -1, 0));
        Due.element(() -> none.roomGoods(0, -1));
        Due.element(() -> none.roomRow(0, -1, -1));
        Due.element(() -> none.roomMachine(0, 4, 1, 0, -1));
        Due.element(() -> none.roomDegrees(0));
        DigHouse full = goods(6);
        Due.state(() -> full.roomRow(3, 500, 0));
        Due.state(() -> full.roomRow(3, -1, -1));
        DigHouse walled = walls(5);
        Due.state(() -> walled.roomWall(3, -1, 0));
        Due.index(() -> walled.roomLayer(3, 5));
        Due.is(20000, () -> walled.roomLayer(3, 4));
    }

    /** Heat and water stay; degrees and damp are theirs by the volume, rounded down. */
    private static void sizes() {
        DigHouse x = Houses.rooms();
        int[][] due = {{1, 2000000, 1000000}, {1000, 2000, 1000}, {999, 2002, 1001}, {3, 666666, 333333}};
        for (int[] row : due) {
            x.roomSize(0, row[0], 0);
            Due.is(row[1], () -> x.roomDegrees(0));
            Due.is(row[2], () -> x.roomDamp(0));
            Due.is(2000000, () -> x.roomBook(0, -1, 0));
            Due.is(1000000, () -> x.roomBook(0, -1, 1));
        }
        // Refused, neither volume nor share change.
        Due.argument(() -> x.roomSize(0, 7, 1001));
        Due.argument(() -> x.roomSize(0, 1001, 7));
        Due.is(666666, () -> x.roomDegrees(0));
        // A share of 1000: all of the air is changed at once.
        x.roomSize(0, 100, 1000);
        x.hour(-60000, 60000);
        Due.is(-60000, () -> x.roomDegrees(0));
        Due.is(60000, () -> x.roomDamp(0));
        Due.is(-8000000, () -> x.roomBook(0, 0, 0));
        x.roomSize(0, 100, 0);
        x.hour(60000, 0);
        Due.is(-60000, () -> x.roomDegrees(0));
        // Rounded down below 0, too.
        x.roomSize(0, 1000, 1);
        x.hour(-5999, 59999);
        Due.is(-6000000 + -5999 + 6000, () -> x.roomBook(0, -1, 0));
        Due.is(-6000, () -> x.roomDegrees(0));
        DigHouse y = Houses.rooms();
        y.roomSize(0, 1, 1);
        y.hour(0, 0);
        // 1 * (0 - 2000000) * 1 by 1000, and 1 * (0 - 1000000) * 1 by 1000.
        Due.is(1998000, () -> y.roomDegrees(0));
        Due.is(999000, () -> y.roomDamp(0));
        y.hour(-1, 0);
        Due.is(1998000 - 1999, () -> y.roomDegrees(0));
        Due.is(999000 - 999, () -> y.roomDamp(0));
    }

    /** Flows by conductance, rounded down; the outermost layer gets what comes from outside. */
    private static void walls() {
        DigHouse x = Houses.rooms();
        x.roomSize(0, 100, 0);
        Due.is(0, () -> x.roomWall(0, 0, 1000));
        x.hour(-60000, 0);
        Due.is(20000, () -> x.roomLayer(0, 0));
        Due.is(20000, () -> x.roomDegrees(0));
        DigHouse y = Houses.rooms();
        y.roomSize(0, 100, 0);
        y.roomWall(0, 100, 1);
        y.hour(19999, 0);
        Due.is(19999, () -> y.roomLayer(0, 0));
        Due.is(2000000, () -> y.roomBook(0, -1, 0));
        y.hour(19999, 0);
        // One unit flows out of the room, and then the layer has 20000, and gives one to the outside.
        Due.is(1999999, () -> y.roomBook(0, -1, 0));
        Due.is(19999, () -> y.roomLayer(0, 0));
        Due.is(-1, () -> y.roomBook(0, 1, 0));
        DigHouse z = Houses.rooms();
        z.roomSize(0, 100, 0);
        z.roomWall(0, 1, 3);
        z.hour(19999, 0);
        // 1 * (19999 - 20000) by 100 is -1; 59999 by 3 is 19999.
        Due.is(19999, () -> z.roomLayer(0, 0));
        z.hour(19999, 0);
        // 1 * (20000 - 19999) by 100 is 0, and likewise outside.
        Due.is(2000000, () -> z.roomBook(0, -1, 0));
        DigHouse two = Houses.rooms();
        two.roomSize(0, 100, 0);
        two.roomWall(0, 50, 10);
        two.roomWall(0, 100, 20);
        two.hour(20100, 0);
        Due.is(20000, () -> two.roomLayer(0, 0));
        Due.is(20005, () -> two.roomLayer(0, 1));
        two.hour(20100, 0);
        // -5 flow from the inner to the outer one, then 100 * (20100 - 20004) by 100 comes from outside.
        Due.is((200000 + 5) / 10, () -> two.roomLayer(0, 0));
        Due.is((400100 - 5 + 96) / 20, () -> two.roomLayer(0, 1));
    }

    /** Rows of goods: up to a row's damp it counts, behind the last one the last; a fourth comes or goes. */
    private static void goods() {
        int[][] due = {{10000, 100, 9999, 200, 250}, {9999, 100, 10001, 200, 500}, {10000, 100, 60000, 200, 250}, {0, 100, 9999, 200, 500},
            {10001, 100, 10002, 200, 250}, {0, 0, 9998, 3, 7}};
        for (int[] row : due) {
            DigHouse x = Houses.rooms();
            x.roomSize(0, 100, 0);
            if (row[2] > row[0]) {
                x.roomRow(0, row[0], row[1]);
            } else {
                x.roomRow(0, row[0], row[1]);
                x.roomRow(0, 60000, 9999);
            }
            if (row[2] > row[0]) {
                x.roomRow(0, row[2], row[3]);
            }
            Due.is(0, () -> x.roomGoods(0, 10));
            x.hour(0, 0);
            Due.is(row[4], () -> x.roomHeld(0));
            Due.is(-row[4], () -> x.roomBook(0, 2, 1));
        }
        // Less than four is nothing when it comes, but one when it goes.
        DigHouse x = Houses.rooms();
        x.roomSize(0, 100, 0);
        x.roomRow(0, 0, 1);
        x.roomGoods(0, 3);
        x.hour(0, 0);
        Due.is(0, () -> x.roomHeld(0));
        Due.is(3, () -> x.roomGoods(0, 4));
        x.hour(0, 0);
        Due.is(1, () -> x.roomHeld(0));
        Due.is(4, () -> x.roomGoods(0, 0));
        Due.is(1, () -> x.roomHeld(0));
        x.hour(0, 0);
        Due.is(0, () -> x.roomHeld(0));
        Due.is(1000000, () -> x.roomBook(0, -1, 1));
        // No more than there is: the goods take all, and then nothing.
        DigHouse y = Houses.rooms();
        y.roomSize(0, 100, 0);
        y.roomRow(0, 0, 10000);
        y.roomGoods(0, 1000);
        y.hour(0, 0);
        Due.is(1000000, () -> y.roomHeld(0));
        Due.is(0, () -> y.roomDamp(0));
        y.hour(0, 0);
        Due.is(1000000, () -> y.roomHeld(0));
        DigHouse z = Houses.rooms();
        z.roomSize(0, 100, 0);
        z.roomRow(0, 60000, 4000);
        z.roomGoods(0, 1000);
        z.hour(0, 0);
        Due.is(1000000, () -> z.roomHeld(0));
        // Without rows what was held goes, too; there are none at first.
        DigHouse none = Houses.rooms();
        none.roomGoods(0, 1000);
        none.hour(10000, 10000);
        Due.is(0, () -> none.roomHeld(0));
    }

    /** Told, a machine is off; it goes on and off behind its band, not at its ends. */
    private static void machines() {
        int[][] due = {
            {0, 20000, 20000, 0, 0}, {0, 20001, 20001, 7, 7}, {0, 20001, 60000, 7, 14}, {0, 20001, 20006, 7, 7}, {0, 20001, 20007, 7, 14},
            {1, 20000, 20000, 0, 0}, {1, 19999, 19999, -7, -7}, {1, -60000, 19999, -7, -14}, {1, 19994, 19999, -7, -7}, {1, 19993, 19999, -7, -14},
            {2, 10000, 10000, 0, 0}, {2, 10001, 10001, 7, 7}, {2, 10001, 10006, 7, 7}, {2, 10001, 10007, 7, 14},
            {3, 10000, 10000, 0, 0}, {3, 9999, 9999, -7, -7}, {3, 9994, 9999, -7, -7}, {3, 9993, 9999, -7, -14},
        };
        for (int[] row : due) {
            DigHouse x = Houses.rooms();
            x.roomSize(0, 100, 0);
            x.roomMachine(0, row[0], row[1], row[2], 700);
            Due.no(() -> x.roomOn(0, row[0]));
            int what = row[0] / 2;
            x.hour(0, 0);
            Due.is(100 * row[3], () -> x.roomBook(0, 4, what));
            Due.compare(String.valueOf(row[3] != 0), String.valueOf(x.roomOn(0, row[0])));
            x.hour(0, 0);
            Due.is(100 * row[4], () -> x.roomBook(0, 4, what));
            Due.compare(String.valueOf(row[4] != row[3]), String.valueOf(x.roomOn(0, row[0])));
            Due.is(0, () -> x.roomBook(0, 4, 1 - what));
        }
    }

    /** A dryer takes no more than there is; rates from 0 to 100000. */
    private static void machinesAtTheirBands() {
        DigHouse x = Houses.rooms();
        x.roomSize(0, 10, 0);
        x.roomMachine(0, 3, -60000, -60000, 100000);
        for (int h = 1; h <= 10; h++) {
            int hour = h;
            x.hour(0, 0);
            Due.is(1000000 - 100000 * hour, () -> x.roomBook(0, -1, 1));
        }
        x.hour(0, 0);
        Due.is(0, () -> x.roomBook(0, -1, 1));
        Due.is(-1000000, () -> x.roomBook(0, 4, 1));
        Due.yes(() -> x.roomOn(0, 3));
        DigHouse y = Houses.rooms();
        y.roomSize(0, 100, 0);
        y.roomMachine(0, 3, 0, 0, 99999);
        for (int h = 0; h < 11; h++) {
            y.hour(0, 0);
        }
        Due.is(0, () -> y.roomDamp(0));
        Due.is(0, () -> y.roomBook(0, -1, 1));
        y.roomMachine(0, 0, 60000, 60000, 0);
        y.hour(0, 0);
        Due.yes(() -> y.roomOn(0, 0));
        Due.is(0, () -> y.roomBook(0, 4, 0));
        y.roomMachine(0, 0, 60000, 60000, 100000);
        Due.no(() -> y.roomOn(0, 0));
        y.hour(0, 0);
        Due.is(100000, () -> y.roomBook(0, 4, 0));
        // A refused one leaves the machine as it is, and on.
        Due.argument(() -> y.roomMachine(0, 0, 60000, 59999, 5));
        Due.argument(() -> y.roomMachine(0, 0, -60001, 0, 5));
        Due.argument(() -> y.roomMachine(0, 0, 0, 60001, 5));
        Due.argument(() -> y.roomMachine(0, 0, 0, 0, 100001));
        Due.argument(() -> y.roomMachine(0, 0, 0, 0, -1));
        Due.yes(() -> y.roomOn(0, 0));
        y.hour(0, 0);
        Due.is(200000, () -> y.roomBook(0, 4, 0));
        // A damper that goes on with damp told as below 0 never does.
        y.roomMachine(0, 2, -60000, -1, 100000);
        y.hour(0, 0);
        Due.no(() -> y.roomOn(0, 2));
    }

    private static void degrees() {
        DigHouse x = Houses.rooms();
        for (int r = 0; r < 4; r++) {
            int room = r;
            Due.is(20000, () -> x.roomDegrees(room));
        }
        x.roomSize(3, 1, 1000);
        x.hour(-1, 0);
        Due.is(-1, () -> x.roomDegrees(3));
        x.roomSize(3, 1000, 0);
        Due.is(-1, () -> x.roomDegrees(3));
        Due.is(17999, () -> x.roomDegrees(2));
    }
}
