/** room, lamp, spare, workshop, hour, pass, carry, pack, lose, lend, treat. */
public final class Promise03Test {
    public static void main(String[] args) {
        rooms();
        roomsWithinRooms();
        lamps();
        hours();
        guests();
        passing();
        carrying();
        packing();
        losing();
        lending();
        brokenLoans();
        toldTooOften();
        treating();
        Due.end();
    }

    /** A house with so many objects, each 10 x 20 x 30 and 100 grams, and places of 1000 grams, none in another one. */
    private static DigHouse house(int objects, int places) {
        DigHouse x = new DigHouse();
        x.context();
        for (int o = 0; o < objects; o++) {
            x.find(0, 0, -1);
            x.object(o, 10, 20, 30, 100);
        }
        for (int p = 0; p < places; p++) {
            x.place(-1, 1000);
        }
        return x;
    }

    private static void rooms() {
        DigHouse x = house(0, 6);
        Due.element(() -> x.room(6));
        Due.element(() -> x.room(-1));
        Due.is(0, () -> x.room(4));
        Due.is(-1, () -> x.room(4));
        Due.is(1, () -> x.room(0));
        Due.is(2, () -> x.room(1));
        Due.is(3, () -> x.room(2));
        Due.state(() -> x.room(3));
        Due.state(() -> x.room(4));
        Due.element(() -> x.room(6));
        Due.is(4, () -> x.had(2));
        Due.is(20000, () -> x.roomDegrees(3));
        Due.is(10000, () -> x.roomDamp(3));
        Due.is(0, () -> x.roomCount(3, 0));
    }

    private static void roomsWithinRooms() {
        DigHouse x = house(1, 1);
        x.place(0, 900);
        x.place(1, 900);
        x.place(2, 900);
        x.room(0);
        x.room(2);
        int[] due = {0, 0, 1, 1};
        for (int p = 0; p < 4; p++) {
            int place = p;
            Due.is(0, () -> x.carry(0, place, 0, 0));
            Due.is(due[place], () -> x.inRoom(0));
        }
        x.room(3);
        Due.is(2, () -> x.inRoom(0));
    }

    private static void lamps() {
        DigHouse x = house(1, 1);
        Due.element(() -> x.lamp(0, 6000));
        x.room(0);
        Due.argument(() -> x.lamp(0, -1));
        Due.argument(() -> x.lamp(0, 5001));
        Due.is(0, () -> x.lamp(0, 5000));
        Due.is(5000, () -> x.lamp(0, 0));
        Due.element(() -> x.spare(1, -5));
        Due.argument(() -> x.spare(0, -2));
        Due.argument(() -> x.spare(0, 1000001));
        Due.is(-1, () -> x.spare(0, 1000000));
        Due.is(1000000, () -> x.spare(0, -1));
        Due.is(-1, () -> x.spare(0, 0));
        Due.element(() -> x.workshop(1));
        Due.element(() -> x.workshop(-2));
        Due.is(-1, () -> x.workshop(0));
        Due.is(0, () -> x.workshop(-1));
        Due.is(-1, () -> x.workshop(-1));
        x.lamp(0, 1);
        Due.is(5, () -> x.carry(0, 0, 0, 0));
        x.lamp(0, 0);
        Due.is(0, () -> x.carry(0, 0, 0, 0));
        x.lamp(0, 7);
        x.spare(0, 8);
        Due.is(0, () -> x.carry(0, 0, 0, 0));
        x.hour(0, 0);
        Due.is(0, () -> x.carry(0, 0, 0, 0));
        x.hour(0, 0);
        Due.is(14, () -> x.light(0));
        Due.is(5, () -> x.carry(0, 0, 0, 0));
        x.spare(0, -1);
        Due.is(0, () -> x.carry(0, 0, 0, 0));
    }

    private static void hours() {
        DigHouse x = house(2, 2);
        x.room(0);
        Due.argument(() -> x.hour(60001, 0));
        Due.argument(() -> x.hour(-60001, 0));
        Due.argument(() -> x.hour(0, -1));
        Due.argument(() -> x.hour(0, 60001));
        Due.is(0, () -> x.had(3));
        x.carry(0, 0, 0, 0);
        Due.is(0, () -> x.hour(60000, 60000));
        Due.is(24000, () -> x.warm(0));
        Due.is(-1000000, () -> x.warm(1));
        Due.is(0, () -> x.hour(-60000, 0));
        Due.is(15600, () -> x.roomDegrees(0));
        Due.is(24000, () -> x.warm(0));
        x.carry(1, 0, 0, 0);
        Due.is(-1000000, () -> x.warm(1));
        x.carry(0, 1, 0, 0);
        Due.is(0, () -> x.hour(-60000, 0));
        Due.is(24000, () -> x.warm(0));
        Due.is(8040, () -> x.warm(1));
        Due.is(3, () -> x.present());
        Due.is(6, () -> x.termCount(4));
        x.room(1);
        for (int h = 3; h < 60; h++) {
            Due.is(0, () -> x.hour(0, 0));
        }
        Due.is(57, () -> x.roomCount(1, 0));
        Due.is(60, () -> x.roomCount(0, 0));
        Due.is(234, () -> x.termCount(4));
        Due.state(() -> x.hour(0, 0));
        Due.argument(() -> x.hour(0, -1));
        Due.is(60, () -> x.had(3));
        Due.is(60, () -> x.present());
        Due.is(84, () -> x.pass(1));
        Due.state(() -> x.hour(0, 0));
    }

    /** Guests that are inside at the time of day, parted over rooms, 99 at most to each. */
    private static void guests() {
        DigHouse x = house(0, 2);
        x.room(0);
        x.ticketSlot(5);
        x.ticketSlot(20);
        x.ticketSell(0, 5, 0);
        x.ticketSell(1, 4, 0);
        x.ticketRead(0, 0, 0);
        x.ticketRead(0, 1, 3600);
        x.hour(0, 0);
        Due.is(0, () -> x.roomBook(0, 3, 0));
        x.ticketJoin();
        x.room(1);
        x.hour(0, 0);
        Due.is(500, () -> x.roomBook(0, 3, 0));
        Due.is(400, () -> x.roomBook(1, 3, 0));
        Due.is(200, () -> x.roomBook(1, 3, 1));
        x.pass(1);
        for (int h = 2; h < 24; h++) {
            x.hour(0, 0);
        }
        Due.is(48, () -> x.present());
        long first = x.roomBook(0, 3, 0);
        x.hour(0, 0);
        Due.is(first + 300, () -> x.roomBook(0, 3, 0));
        Due.yes(() -> x.ticketLeaves(0, 3600));
        long second = x.roomBook(0, 3, 0);
        x.hour(0, 0);
        Due.is(second + 200, () -> x.roomBook(0, 3, 0));
        DigHouse y = house(0, 1);
        y.room(0);
        for (int s = 0; s < 7; s++) {
            y.ticketSlot(20);
            y.ticketSell(s, 9, 0);
            y.ticketSell(s, 9, 0);
            y.ticketRead(0, 2 * s, 3600 * s);
            y.ticketRead(0, 2 * s + 1, 3600 * s);
        }
        y.ticketJoin();
        for (int h = 0; h < 6; h++) {
            y.hour(0, 0);
        }
        Due.is(18 + 36 + 54 + 72 + 90 + 99, () -> y.roomBook(0, 3, 0) / 100);
    }

    private static void passing() {
        DigHouse x = new DigHouse();
        Due.argument(() -> x.pass(0));
        Due.argument(() -> x.pass(1001));
        Due.argument(() -> x.pass(-1));
        for (int i = 1; i <= 37; i++) {
            int hour = 24000 * i;
            Due.is(hour, () -> x.pass(1000));
        }
        Due.argument(() -> x.pass(501));
        Due.is(900000, () -> x.pass(500));
        Due.argument(() -> x.pass(1));
        Due.is(900000, () -> x.present());
        Due.is(0, () -> x.hour(0, 0));
        Due.is(900001, () -> x.present());
        Due.is(1, () -> x.had(3));
    }

    private static void carrying() {
        DigHouse x = house(3, 2);
        x.place(-1, 250);
        Due.element(() -> x.carry(3, 0, 0, 0));
        Due.element(() -> x.carry(0, 3, 0, 0));
        Due.element(() -> x.carry(0, 0, -1, 0));
        Due.element(() -> x.carry(0, 0, 0, 10));
        Due.is(0, () -> x.carry(0, 2, 0, 9));
        Due.is(0, () -> x.carry(1, 2, 0, 0));
        Due.is(2, () -> x.carry(2, 2, 0, 0));
        Due.is(-1, () -> x.placeWhere(2, 0));
        x.placeQuiet(0, 0, 0);
        Due.is(1, () -> x.carry(2, 0, 0, 0));
        x.hour(0, 0);
        Due.is(0, () -> x.carry(2, 0, 0, 0));
        Due.is(1, () -> x.placeCount(4));
        x.placeKeys(2, 1);
        int rows = x.had(4);
        Due.state(() -> x.carry(2, 1, 3, 4));
        Due.is(rows, () -> x.had(4));
        x.placeKey(3, true);
        Due.is(0, () -> x.carry(2, 1, 3, 4));
        x.placeKeys(2, 2);
        Due.state(() -> x.carry(2, 0, 3, 3));
        Due.state(() -> x.carry(2, 0, 3, 4));
        x.placeKey(4, true);
        Due.is(0, () -> x.carry(2, 0, 3, 4));
        x.placeKey(3, false);
        Due.state(() -> x.carry(2, 0, 3, 4));
        x.ownerClaim(2, 0, 0);
        Due.is(3, () -> x.carry(2, 0, 3, 4));
        x.ownerSettle(0, 0);
        Due.state(() -> x.carry(2, 0, 3, 4));
        x.placeKeys(2, 0);
        for (int row = x.placeCount(5); row < 42; row++) {
            Due.is(0, () -> x.carry(2, 1, 0, 0));
        }
        Due.state(() -> x.carry(2, 1, 0, 0));
        x.ownerClaim(2, 0, 1);
        Due.state(() -> x.carry(2, 1, 0, 0));
        x.pass(1);
        Due.is(3, () -> x.carry(2, 1, 0, 0));
        Due.is(1, () -> x.placeCount(4));
    }

    private static void packing() {
        DigHouse x = house(1, 1);
        x.find(0, 0, -1);
        x.object(1, 31, 11, 21, 100);
        x.find(0, 0, -1);
        x.object(2, 31, 11, 20, 100);
        x.place(-1, 150);
        Due.element(() -> x.pack(3, 0));
        Due.element(() -> x.pack(0, -1));
        Due.is(1, () -> x.pack(0, 1));
        x.placeBox(0);
        x.placeBox(1);
        x.placeBox(2);
        Due.is(1, () -> x.pack(0, 0));
        Due.is(2, () -> x.pack(0, 2));
        x.placeKeys(0, 1);
        Due.is(3, () -> x.pack(0, 1));
        x.placeKeys(0, 0);
        x.carry(0, 0, 0, 0);
        x.carry(1, 1, 0, 0);
        x.placeQuiet(0, 0, 0);
        Due.is(4, () -> x.pack(0, 1));
        x.hour(0, 0);
        Due.is(5, () -> x.pack(0, 1));
        x.carry(1, 0, 0, 0);
        Due.is(0, () -> x.pack(0, 1));
        Due.is(0, () -> x.placeWhere(0, 1));
        Due.is(1, () -> x.placeHistory(0, 1, 1));
        Due.is(1, () -> x.pack(1, 0));
        x.ownerClaim(0, 1, 0);
        Due.is(6, () -> x.pack(0, 0));
        x.ownerSettle(0, 0);
        for (int i = 2; i < 40; i++) {
            Due.is(0, () -> x.carry(0, 0, 0, 0));
        }
        Due.state(() -> x.pack(0, 1));
        Due.state(() -> x.pack(0, 0));
        x.ownerClaim(0, 1, 0);
        Due.is(6, () -> x.pack(0, 0));
    }

    private static void losing() {
        DigHouse x = house(2, 1);
        Due.element(() -> x.lose(2));
        Due.no(() -> x.lose(0));
        x.carry(0, 0, 0, 0);
        x.hour(0, 0);
        Due.yes(() -> x.lose(0));
        Due.is(1, () -> x.placeCount(4));
        Due.no(() -> x.lose(0));
        Due.is(-1, () -> x.placeWhere(0, 1));
        Due.is(0, () -> x.placeWhere(0, 0));
        for (int i = 2; i < 40; i++) {
            Due.is(0, () -> x.carry(0, 0, 0, 0));
        }
        Due.state(() -> x.lose(0));
        x.find(0, 0, -1);
        x.object(2, 11, 21, 31, 1);
        x.placeBox(2);
        x.pack(1, 2);
        Due.no(() -> x.lose(1));
    }

    private static void read(DigHouse x, String terms) {
        for (char c : terms.toCharArray()) {
            x.termUnit(c);
        }
        x.termRead();
    }

    private static void lending() {
        DigHouse x = house(2, 0);
        Due.index(() -> x.lend(0, 9, -1, -1));
        read(x, "y<9");
        Due.element(() -> x.lend(0, 2, -1, -1));
        Due.argument(() -> x.lend(0, 0, -1, 5));
        Due.argument(() -> x.lend(0, 0, 5, 4));
        Due.argument(() -> x.lend(0, 0, 5, 100001));
        x.termRequest(0, 0, 100);
        Due.is(0, () -> x.lend(0, 0, 0, 0));
        Due.is(-1, () -> x.lend(0, 0, 0, 3));
        Due.is(1, () -> x.lend(0, 0, 1, 3));
        Due.is(2, () -> x.lend(0, 1, 1, 3));
        x.ownerClaim(0, 0, 0);
        Due.is(-2, () -> x.lend(0, 0, 9, 9));
        Due.is(-2, () -> x.lend(0, 0, 1, 3));
        x.ownerSettle(0, 0);
        x.pass(4);
        Due.argument(() -> x.lend(0, 0, 3, 9));
        for (int i = 3; i < 20; i++) {
            int loan = i;
            Due.is(loan, () -> x.lend(0, 0, 10 * loan, 10 * loan));
        }
        x.ownerClaim(0, 0, 0);
        Due.state(() -> x.lend(0, 0, 500, 500));
        Due.argument(() -> x.lend(0, 0, 3, 500));
        Due.is(20, () -> x.termCount(2));
    }

    private static void brokenLoans() {
        DigHouse x = house(2, 1);
        read(x, "z=1;y<1");
        x.lend(0, 0, 0, 1);
        x.lend(0, 1, 0, 0);
        x.termShield(1, true);
        Due.is(0, () -> x.carry(0, 0, 0, 0));
        Due.is(-1, () -> x.broken(0));
        Due.is(1, () -> x.hour(0, 0));
        Due.is(1, () -> x.broken(0));
        Due.is(0, () -> x.broken(1));
        Due.is(4, () -> x.carry(0, 0, 0, 0));
        Due.is(0, () -> x.carry(1, 0, 0, 0));
        x.ownerClaim(0, 0, 0);
        Due.is(3, () -> x.carry(0, 0, 0, 0));
        x.pass(1);
        Due.is(1, () -> x.hour(0, 0));
        Due.is(2, () -> x.termTold(0, -1, 0));
        Due.is(25, () -> x.termTold(0, 1, 0));
        Due.is(1, () -> x.termTold(0, 1, 1));
        Due.is(-1, () -> x.broken(1));
        x.termShield(0, true);
        Due.is(1, () -> x.hour(0, 0));
        Due.is(2, () -> x.broken(0));
        x.termShield(0, false);
        Due.is(1, () -> x.hour(0, 0));
        Due.is(3, () -> x.termTold(0, -1, 0));
        Due.is(0, () -> x.termTold(0, 2, 1));
        x.pass(1);
        Due.is(0, () -> x.hour(0, 0));
        Due.is(-1, () -> x.broken(0));
    }

    /** At most a hundred are told of a loan. */
    private static void toldTooOften() {
        DigHouse x = house(1, 0);
        read(x, "z=1;z=1;z=1;z=1;z=1;z=1");
        x.lend(0, 0, 0, 9);
        for (int h = 0; h < 60; h++) {
            x.termShield(0, h % 2 == 1);
            int due = h % 2 == 1 ? 0 : 1;
            Due.is(due, () -> x.hour(0, 0));
        }
        Due.is(100, () -> x.termTold(0, -1, 0));
        Due.is(3, () -> x.termTold(0, 99, 1));
        Due.is(32, () -> x.termTold(0, 99, 0));
    }

    private static void method(DigHouse x, String text) {
        for (char c : text.toCharArray()) {
            x.methodUnit(c);
        }
        x.methodRead();
    }

    private static void treating() {
        DigHouse x = house(2, 1);
        x.place(0, 500);
        Due.element(() -> x.treat(2, 9, 9, 9));
        Due.index(() -> x.treat(0, 0, 0, 0));
        method(x, "u2*5");
        method(x, "i");
        Due.index(() -> x.treat(0, 2, 0, 0));
        Due.index(() -> x.treat(0, 0, 8, 0));
        Due.index(() -> x.treat(0, 0, 0, -1));
        Due.is(502, () -> x.treat(0, 0, 0, 0));
        x.methodStock(2, 12);
        Due.is(600, () -> x.treat(0, 0, 0, 0));
        x.methodRight(0, 0, true);
        Due.is(0, () -> x.treat(0, 0, 0, 0));
        Due.is(7, () -> x.methodAbout(2, 0));
        Due.is(-1, () -> x.methodRow(0, 0, 3));
        x.methodRight(0, 1, true);
        Due.is(700, () -> x.treat(0, 1, 0, 0));
        Due.is(700, () -> x.treat(0, 1, 0, 1));
        x.methodRight(1, 1, true);
        Due.is(0, () -> x.treat(0, 1, 0, 1));
        Due.is(1, () -> x.methodRow(0, 1, 3));
        x.workshop(0);
        Due.is(800, () -> x.treat(0, 1, 0, 1));
        x.carry(0, 1, 0, 0);
        Due.is(0, () -> x.treat(0, 1, 0, 1));
        x.ownerClaim(0, 0, 0);
        Due.is(801, () -> x.treat(0, 1, 0, 1));
        x.lose(0);
        Due.is(800, () -> x.treat(0, 1, 0, 1));
        x.workshop(-1);
        x.ownerSettle(0, 0);
        read(x, "y<9");
        x.lend(0, 0, 0, 0);
        Due.is(0, () -> x.treat(0, 1, 0, 1));
        Due.is(0, () -> x.hour(0, 0));
        Due.is(802, () -> x.treat(0, 1, 0, 1));
        x.pass(1);
        Due.is(802, () -> x.treat(0, 1, 0, 1));
        x.hour(0, 0);
        for (int row = 4; row < 30; row++) {
            Due.is(0, () -> x.treat(0, 1, 0, 1));
        }
        Due.state(() -> x.treat(0, 1, 0, 1));
        Due.index(() -> x.treat(0, 2, 0, 1));
        x.ownerClaim(0, 0, 0);
        Due.state(() -> x.treat(0, 1, 0, 1));
        Due.is(30, () -> x.methodRow(0, -1, 0));
        Due.is(26, () -> x.methodRow(0, 29, 1));
    }
}
