import java.util.function.Supplier;

/** The edges of promise 3: room, lamp, spare, workshop, hour, pass, carry, pack, lose, lend, treat. */
public final class Edges03Test {
    private static final int MIN = Integer.MIN_VALUE;
    private static final int MAX = Integer.MAX_VALUE;

    public static void main(String[] args) {
        rooms();
        roomsWithinRooms();
        lampsAndSpares();
        hours();
        inputs();
        visitors();
        parted();
        lights();
        loansByDays();
        mostTold();
        passing();
        carries();
        keys();
        fullOfRows();
        light();
        packs();
        newBoxes();
        loses();
        presentOfPlaces();
        lends();
        treats();
        treatOrder();
        Due.end();
    }

    private static void rooms() {
        Supplier<DigHouse> house = () -> {
            DigHouse x = new DigHouse();
            for (int p = 0; p < 24; p++) {
                x.place(-1, 1);
            }
            return x;
        };
        Supplier<DigHouse> all = () -> {
            DigHouse x = house.get();
            for (int r = 0; r < 4; r++) {
                int room = r;
                Due.is(room, () -> x.room(23 - 5 * room));
                // One more time it is one already, as long as there are less than four.
                if (room < 3) {
                    Due.is(-1, () -> x.room(23));
                }
            }
            return x;
        };
        Bounds.of(house, "room", 7).element(0, 0, 23).hold().full(all);
        DigHouse x = all.get();
        Due.state(() -> x.room(23));
        Due.state(() -> x.room(8));
        Due.is(4, () -> x.had(2));
    }

    /** What lies in another room that is within a room is in that one; what lies in no room is in none. */
    private static void roomsWithinRooms() {
        DigHouse x = Houses.objects(1);
        for (int p = 0; p < 24; p++) {
            x.place(p - 1, 1000);
        }
        x.room(1);
        x.room(22);
        x.room(12);
        int[] due = {-1, 0, 0, 0, 0, 0, 0, 0, 0, 0, 0, 0, 2, 2, 2, 2, 2, 2, 2, 2, 2, 2, 1, 1};
        Due.is(-1, () -> x.inRoom(0));
        for (int p = 0; p < 24; p++) {
            int place = p;
            x.carry(0, place, 0, 0);
            Due.is(due[place], () -> x.inRoom(0));
        }
    }

    private static void lampsAndSpares() {
        Bounds.of(Houses::museum, "lamp", 2, 50).element(0, 0, 3).argument(1, 0, 5000).hold();
        Bounds.of(Houses::museum, "spare", 2, 50).element(0, 0, 9).argument(1, -1, 1000000).hold();
        Bounds.of(Houses::museum, "workshop", 2).element(0, -1, 23).hold();
        DigHouse x = Houses.museum();
        Due.is(0, () -> x.lamp(3, 5000));
        Due.is(5000, () -> x.lamp(3, 0));
        Due.is(-1, () -> x.spare(9, 1000000));
        Due.is(1000000, () -> x.spare(9, 0));
        Due.is(0, () -> x.spare(9, -1));
        Due.is(-1, () -> x.workshop(23));
        Due.is(23, () -> x.workshop(-1));
        DigHouse none = new DigHouse();
        Due.element(() -> none.lamp(0, -1));
        Due.element(() -> none.spare(0, -2));
        Due.element(() -> none.workshop(0));
        Due.is(-1, () -> none.workshop(-1));
    }

    private static void hours() {
        Supplier<DigHouse> all = () -> Houses.hours(60);
        Bounds.of(Houses::museum, "hour", 0, 5000).argument(0, -60000, 60000).argument(1, 0, 60000).hold();
        Bounds.of(Houses::rooms, "hour", 0, 5000).argument(0, -60000, 60000).argument(1, 0, 60000).hold().full(all);
        DigHouse x = all.get();
        Due.is(60, () -> x.had(3));
        Due.is(60, () -> x.present());
        Due.is(60, () -> x.roomCount(3, 0));
        Due.is(480, () -> x.termCount(4));
        Due.is(60 + 24, () -> x.pass(1));
        Due.state(() -> x.hour(0, 0));
    }

    /** Inputs are the degrees and 60000, and the damp, but 0 at least and 999999 at most. */
    private static void inputs() {
        DigHouse x = Houses.contracts(1, 1, "a=0;a=999999;b=0;b=999999;a=79000;b=9800");
        x.lend(0, 0, 0, 1000);
        x.place(-1, 1);
        x.room(0);
        x.hour(10000, 8000);
        Due.compare("0 1 2 3", told(x, 0));
        // With a volume of 1 the degrees are 1900000 and the damp 980000, then their greatest.
        x.roomSize(0, 1, 0);
        x.hour(0, 0);
        Due.is(1900000, () -> x.roomDegrees(0));
        Due.is(980000, () -> x.roomDamp(0));
        Due.is(1, () -> x.broken(0));
        x.roomMachine(0, 2, 60000, 60000, 100000);
        x.roomSize(0, 1, 1000);
        x.hour(-60000, 60000);
        Due.is(-60000, () -> x.roomDegrees(0));
        x.roomSize(0, 1, 0);
        x.roomMachine(0, 1, -60000, -60000, 1);
        x.hour(0, 0);
        Due.is(-60000, () -> x.roomDegrees(0));
        x.roomMachine(0, 1, -60000, -60000, 100000);
        x.roomMachine(0, 0, -59999, 60000, 1);
        // The warmer brings -59999 first, and then the cooler takes 100000.
        x.hour(0, 0);
        Due.is(-159999, () -> x.roomDegrees(0));
        DigHouse y = Houses.contracts(1, 2, "a=0");
        y.lend(0, 0, 0, 9);
        y.place(-1, 1);
        y.room(0);
        y.roomSize(0, 1, 1000);
        y.roomMachine(0, 1, -60000, -60000, 1);
        y.roomMachine(0, 0, -60000, -60000, 0);
        y.hour(-60000, 60000);
        Due.is(0, () -> y.broken(0));
        y.roomSize(0, 1000, 0);
        y.hour(0, 0);
        Due.is(-61, () -> y.roomDegrees(0));
        Due.is(1, () -> y.broken(0));
        y.roomSize(0, 1, 0);
        y.roomMachine(0, 1, -60000, -60000, 7);
        y.roomMachine(0, 0, -59999, -59999, 2);
        // From -60001 two up, and seven down.
        y.hour(0, 0);
        Due.is(-60006, () -> y.roomDegrees(0));
        Due.is(0, () -> y.broken(0));
        DigHouse z = Houses.contracts(1, 1, "a=999999;b=999999");
        z.lend(0, 0, 0, 9);
        z.place(-1, 1);
        z.room(0);
        z.roomSize(0, 1, 0);
        z.hour(0, 0);
        Due.is(1000000, () -> z.roomDamp(0));
        Due.is(0, () -> z.broken(0));
        z.roomMachine(0, 3, -60000, -60000, 1);
        z.hour(0, 0);
        Due.is(999999, () -> z.roomDamp(0));
        Due.is(0, () -> z.broken(0));
        z.hour(0, 0);
        Due.is(999998, () -> z.roomDamp(0));
        Due.is(2, () -> z.broken(0));
    }

    /** The terms that were told of a loan. */
    private static String told(DigHouse x, int loan) {
        StringBuilder all = new StringBuilder();
        for (int k = 0; k < x.termTold(loan, -1, 0); k++) {
            all.append(k == 0 ? "" : " ").append(x.termTold(loan, k, 1));
        }
        return all.toString();
    }

    /** A house with so many guests inside from 18000 on, and rooms without air. */
    private static DigHouse guests(int count, int rooms) {
        DigHouse x = new DigHouse();
        for (int r = 0; r < rooms; r++) {
            x.place(-1, 1);
            x.room(r);
            x.roomSize(r, 1, 0);
        }
        int left = count;
        for (int slot = 0; slot < 6; slot++) {
            x.ticketSlot(20);
            for (int room = 20; room > 0 && left > 0;) {
                int group = Math.min(9, Math.min(room, left));
                int ticket = x.ticketSell(slot, group, 0);
                Due.is(1, () -> x.ticketRead(0, ticket, 3600 * x.ticketAbout(ticket, 0)));
                room -= group;
                left -= group;
            }
        }
        x.ticketJoin();
        return x;
    }

    /** At most 99 guests go to each room, those at 3600 times the hour of the day. */
    private static void visitors() {
        int[][] due = {{0, 0}, {1, 1}, {98, 98}, {99, 99}, {100, 99}, {120, 99}};
        for (int[] row : due) {
            DigHouse x = guests(row[0], 1);
            for (int h = 0; h < 5; h++) {
                x.hour(0, 0);
            }
            long before = x.roomBook(0, 3, 0);
            x.hour(0, 0);
            Due.is(100L * row[1], () -> x.roomBook(0, 3, 0) - before);
            Due.is(x.roomBook(0, 3, 0) / 2, () -> x.roomBook(0, 3, 1));
        }
        DigHouse x = guests(120, 1);
        x.hour(0, 0);
        // At second 0 the first slot's twenty are inside, at 3600 the second one's, too.
        Due.is(2000, () -> x.roomBook(0, 3, 0));
        x.hour(0, 0);
        Due.is(6000, () -> x.roomBook(0, 3, 0));
        x.pass(1);
        x.hour(0, 0);
        Due.is(12000, () -> x.roomBook(0, 3, 0));
        DigHouse day = guests(20, 1);
        day.pass(1);
        day.hour(0, 0);
        Due.is(2000, () -> day.roomBook(0, 3, 0));
        DigHouse late = new DigHouse();
        late.place(-1, 1);
        late.room(0);
        late.ticketSlot(1);
        late.ticketSell(0, 1, 0);
        late.ticketRead(0, 0, 1);
        late.ticketJoin();
        late.hour(0, 0);
        Due.is(0, () -> late.roomBook(0, 3, 0));
        for (int h = 1; h < 24; h++) {
            late.hour(0, 0);
        }
        Due.is(2300, () -> late.roomBook(0, 3, 0));
        late.hour(0, 0);
        Due.is(2300, () -> late.roomBook(0, 3, 0));
        Due.yes(() -> late.ticketLeaves(0, 3600));
        // One second behind the hour is not inside at the hour.
        DigHouse second = new DigHouse();
        second.place(-1, 1);
        second.room(0);
        second.ticketSlot(1);
        second.ticketSlot(1);
        second.ticketSell(1, 1, 0);
        second.ticketRead(0, 0, 3601);
        second.ticketJoin();
        second.hour(0, 0);
        second.hour(0, 0);
        Due.is(0, () -> second.roomBook(0, 3, 0));
        second.hour(0, 0);
        Due.is(100, () -> second.roomBook(0, 3, 0));
        late.hour(0, 0);
        Due.is(2300, () -> late.roomBook(0, 3, 0));
    }

    /** Guests are parted evenly, one more to each of the lower rooms. */
    private static void parted() {
        int[][] due = {{3, 1, 1, 1, 0}, {4, 1, 1, 1, 1}, {5, 2, 1, 1, 1}, {7, 2, 2, 2, 1}, {19, 5, 5, 5, 4}};
        for (int[] row : due) {
            DigHouse x = guests(row[0], 4);
            x.hour(0, 0);
            for (int r = 0; r < 4; r++) {
                int room = r;
                Due.is(100 * row[1 + room], () -> x.roomBook(room, 3, 0));
            }
        }
        DigHouse none = guests(9, 0);
        Due.is(0, () -> none.hour(0, 0));
    }

    /** An object gets its lamp's lux; it is the warmest that counts, below 0 too, once it was in a room. */
    private static void lights() {
        DigHouse x = Houses.museum();
        x.lamp(0, 5000);
        x.carry(0, 0, 0, 0);
        x.carry(1, 9, 0, 0);
        x.roomSize(0, 1, 1000);
        x.hour(-60000, 0);
        Due.is(5000, () -> x.light(0));
        Due.is(-60000, () -> x.warm(0));
        Due.is(0, () -> x.light(1));
        Due.is(-1000000, () -> x.warm(1));
        x.hour(-59999, 0);
        Due.is(-59999, () -> x.warm(0));
        x.hour(-60000, 0);
        Due.is(-59999, () -> x.warm(0));
        Due.is(15000, () -> x.light(0));
        lightInBoxes();
        coldRooms();
    }

    /** In a room for the first time the degrees count, whatever they are; also in a house that was reopened. */
    private static void coldRooms() {
        DigHouse x = Houses.objects(1);
        x.place(-1, 1000);
        x.room(0);
        x.roomSize(0, 1000, 1000);
        x.hour(-60000, 0);
        // The heat of a great room in a small one.
        x.roomSize(0, 1, 0);
        Due.is(-60000000, () -> x.roomDegrees(0));
        x.save();
        for (int time = 0; time < 3; time++) {
            Due.is(-1000000, () -> x.warm(0));
            x.carry(0, 0, 0, 0);
            Due.is(-1000000, () -> x.warm(0));
            x.hour(0, 0);
            Due.is(-60000000, () -> x.warm(0));
            x.roomMachine(0, 0, 0, 0, 1);
            x.hour(0, 0);
            Due.is(-59999999, () -> x.warm(0));
            x.cut(0);
            x.reopen();
        }
    }

    private static void lightInBoxes() {
        DigHouse y = Houses.contexts(1);
        y.find(0, 0, 0);
        y.find(0, 0, 0);
        y.object(0, 1, 1, 1, 1);
        y.object(1, 2, 2, 2, 1);
        y.place(-1, 9);
        y.room(0);
        y.lamp(0, 1);
        y.placeBox(1);
        y.pack(0, 1);
        y.hour(0, 0);
        Due.is(0, () -> y.light(0));
        y.carry(1, 0, 0, 0);
        y.hour(0, 0);
        Due.is(1, () -> y.light(0));
        y.lose(1);
        y.hour(0, 0);
        Due.is(1, () -> y.light(0));
        Due.is(1, () -> y.light(1));
    }

    /** A loan is asked at the hours of its days, from the first hour of the first one to the last of the last one. */
    private static void loansByDays() {
        DigHouse x = Houses.contracts(1, 1, "z=1");
        x.lend(0, 0, 2, 3);
        x.hour(0, 0);
        Due.is(-1, () -> x.broken(0));
        for (int h = 1; h < 24; h++) {
            x.hour(0, 0);
        }
        x.hour(0, 0);
        Due.is(25, () -> x.present());
        Due.is(-1, () -> x.broken(0));
        DigHouse y = Houses.contracts(1, 1, "z=1");
        y.lend(0, 0, 1, 1);
        for (int h = 0; h < 24; h++) {
            Due.is(0, () -> y.hour(0, 0));
        }
        Due.is(-1, () -> y.broken(0));
        for (int h = 24; h < 48; h++) {
            Due.is(1, () -> y.hour(0, 0));
            Due.is(1, () -> y.broken(0));
        }
        Due.is(4, () -> carryBroken(y));
        Due.is(0, () -> y.hour(0, 0));
        Due.is(-1, () -> y.broken(0));
        Due.is(0, () -> carryBroken(y));
        Due.is(1, () -> y.termTold(0, -1, 0));
        Due.is(24, () -> y.termTold(0, 0, 0));
    }

    private static int carryBroken(DigHouse x) {
        return x.carry(0, x.placeCount(0) == 0 ? x.place(-1, 1000) : 0, 0, 0);
    }

    /** Just a hundred are told of a loan; those behind are not, and it is asked as before. */
    private static void mostTold() {
        DigHouse x = Houses.contracts(2, 1, "z=1;z=1;z=1;z=1;z=1;z=1");
        x.lend(0, 0, 0, 9);
        x.lend(0, 1, 0, 9);
        for (int round = 0; round < 17; round++) {
            x.termShield(0, false);
            Due.is(2, () -> x.hour(0, 0));
            x.termShield(0, true);
            Due.is(1, () -> x.hour(0, 0));
        }
        Due.is(100, () -> x.termTold(0, -1, 1));
        Due.is(3, () -> x.termTold(0, 99, 1));
        Due.is(32, () -> x.termTold(0, 99, 0));
        Due.is(5, () -> x.termTold(0, 95, 1));
        Due.is(30, () -> x.termTold(0, 95, 0));
        Due.index(() -> x.termTold(0, 100, 0));
        Due.is(6, () -> x.termTold(1, -1, 0));
        x.termShield(0, false);
        Due.is(2, () -> x.hour(0, 0));
        Due.is(1, () -> x.broken(0));
        Due.is(100, () -> x.termTold(0, -1, 0));
        Due.is(5 * 10 + 20 * 6 + 300 + 50 * 100, () -> x.termFee(0));
    }

    /** Days pass up to hour 900000. */
    private static void passing() {
        Bounds.of(DigHouse::new, "pass", 7).argument(0, 1, 1000).hold();
        DigHouse x = new DigHouse();
        for (int i = 1; i <= 37; i++) {
            int hour = 24000 * i;
            Due.is(hour, () -> x.pass(1000));
        }
        Due.argument(() -> x.pass(501));
        Due.is(900000, () -> x.pass(500));
        Due.argument(() -> x.pass(1));
        Due.is(0, () -> x.hour(0, 0));
        Due.is(900001, () -> x.present());
        Due.argument(() -> x.pass(1));
        DigHouse y = new DigHouse();
        y.hour(0, 0);
        for (int i = 1; i <= 37; i++) {
            y.pass(1000);
        }
        Due.argument(() -> y.pass(500));
        Due.is(888001 + 24 * 499, () -> y.pass(499));
        Due.argument(() -> y.pass(1));
        DigHouse z = new DigHouse();
        for (int h = 0; h < 23; h++) {
            z.hour(0, 0);
        }
        for (int i = 1; i <= 37; i++) {
            z.pass(1000);
        }
        Due.is(899999, () -> z.pass(499));
        Due.argument(() -> z.pass(1));
    }

    private static void carries() {
        Bounds.of(Houses::museum, "carry", 3, 5, 4, 6).element(0, 0, 9).element(1, 0, 23).element(2, 0, 9).element(3, 0, 9).hold();
        Bounds.of(Houses::museum, "pack", 3, 5).element(0, 0, 9).element(1, 0, 9).hold();
        Bounds.of(Houses::museum, "lose", 3).element(0, 0, 9).hold();
        DigHouse x = Houses.objects(10);
        Due.element(() -> x.carry(0, 0, 0, 0));
        // A place just bears what its load says; what lies within it counts there, too.
        x.place(-1, 200);
        x.place(0, 100);
        Due.is(0, () -> x.carry(0, 1, 0, 9));
        Due.is(2, () -> x.carry(1, 1, 0, 0));
        Due.is(0, () -> x.carry(1, 0, 0, 0));
        Due.is(2, () -> x.carry(2, 0, 0, 0));
        Due.is(2, () -> x.carry(1, 1, 0, 0));
        Due.is(0, () -> x.carry(0, 0, 0, 0));
        Due.is(0, () -> x.carry(1, 1, 0, 0));
        Due.is(200, () -> x.placeUsed(0, 0));
        DigHouse y = Houses.objects(2);
        y.place(-1, 199);
        y.carry(0, 0, 0, 0);
        Due.is(2, () -> y.carry(1, 0, 0, 0));
        planned();
        quiet();
    }

    /** Room that plans hold counts from their first hour to their last one, for what is not there anyway. */
    private static void planned() {
        DigHouse x = Houses.objects(3);
        x.place(-1, 250);
        Due.is(0, () -> x.placePlanned(0, 0, 5, 9));
        Due.is(0, () -> x.placePlanned(1, 0, 999999, 1000000));
        Due.is(0, () -> x.carry(2, 0, 0, 0));
        Due.is(1, () -> x.placePlanned(1, 0, 9, 9));
        Due.is(1, () -> x.placePlanned(1, 0, 5, 5));
        Due.is(0, () -> x.placePlanned(1, 0, 4, 4));
        Due.is(0, () -> x.placePlanned(1, 0, 10, 10));
        // Object 0 there now: it counts once at the hours of its plan, so that 1 passes the load at once.
        x.lose(2);
        Due.is(0, () -> x.carry(0, 0, 0, 0));
        Due.is(0, () -> x.carry(1, 0, 0, 0));
        Due.is(2, () -> x.carry(2, 0, 0, 0));
        x.lose(0);
        Due.is(2, () -> x.carry(2, 0, 0, 0));
        Due.is(100, () -> x.placeUsed(0, 4));
        Due.is(200, () -> x.placeUsed(0, 5));
        Due.is(200, () -> x.placeUsed(0, 9));
        Due.is(100, () -> x.placeUsed(0, 10));
        // The last hour of a plan still bars; behind it there is room.
        DigHouse y = Houses.objects(3);
        y.place(-1, 100);
        Due.is(0, () -> y.placePlanned(0, 0, 0, 1));
        Due.is(2, () -> y.carry(1, 0, 0, 0));
        y.hour(0, 0);
        Due.is(2, () -> y.carry(1, 0, 0, 0));
        y.hour(0, 0);
        Due.is(0, () -> y.carry(1, 0, 0, 0));
        DigHouse z = Houses.objects(2);
        z.place(-1, 100);
        Due.is(0, () -> z.placePlanned(0, 0, 1000000, 1000000));
        Due.is(2, () -> z.carry(1, 0, 0, 0));
    }

    /** A quiet time bars at its first hour and at its last one, into a place and out of it, not within it. */
    private static void quiet() {
        DigHouse x = Houses.objects(2);
        x.place(-1, 1000);
        x.place(0, 1000);
        x.place(0, 1000);
        x.place(-1, 1000);
        x.carry(0, 1, 0, 0);
        x.placeQuiet(0, 1, 2);
        Due.is(0, () -> x.carry(1, 3, 0, 0));
        Due.is(0, () -> x.carry(0, 3, 0, 0));
        Due.is(0, () -> x.carry(0, 1, 0, 0));
        for (int h = 1; h <= 2; h++) {
            x.hour(0, 0);
            Due.is(1, () -> x.carry(0, 3, 0, 0));
            Due.is(1, () -> x.carry(1, 0, 0, 0));
            Due.is(1, () -> x.carry(1, 2, 0, 0));
            Due.is(0, () -> x.carry(0, 2, 0, 0));
            Due.is(0, () -> x.carry(0, 1, 0, 0));
        }
        x.hour(0, 0);
        Due.is(0, () -> x.carry(1, 2, 0, 0));
        Due.is(0, () -> x.carry(0, 3, 0, 0));
        // A quiet time ahead of what would be too heavy, for a box likewise.
        DigHouse y = Houses.contexts(1);
        for (int o = 0; o < 2; o++) {
            y.find(0, 0, -1);
            y.object(o, 1 + o, 1 + o, 1 + o, 100);
        }
        y.place(-1, 99);
        y.place(-1, 199);
        y.placeBox(1);
        Due.is(2, () -> y.carry(0, 0, 0, 0));
        Due.is(0, () -> y.carry(1, 1, 0, 0));
        Due.is(5, () -> y.pack(0, 1));
        y.placeQuiet(0, 0, 0);
        y.placeQuiet(1, 0, 0);
        Due.is(1, () -> y.carry(0, 0, 0, 0));
        Due.is(4, () -> y.pack(0, 1));
        y.hour(0, 0);
        Due.is(2, () -> y.carry(0, 0, 0, 0));
        Due.is(5, () -> y.pack(0, 1));
    }

    /** Keys: none, one of person a, or one of each of two persons. */
    private static void keys() {
        DigHouse x = Houses.objects(1);
        x.place(-1, 1000);
        x.placeKey(0, true);
        x.placeKey(9, true);
        Due.is(0, () -> x.carry(0, 0, 5, 5));
        x.placeKeys(0, 1);
        Due.is(0, () -> x.carry(0, 0, 0, 5));
        Due.is(0, () -> x.carry(0, 0, 9, 9));
        Due.state(() -> x.carry(0, 0, 5, 0));
        x.placeKeys(0, 2);
        Due.is(0, () -> x.carry(0, 0, 0, 9));
        Due.is(0, () -> x.carry(0, 0, 9, 0));
        Due.state(() -> x.carry(0, 0, 0, 5));
        Due.state(() -> x.carry(0, 0, 5, 0));
        Due.state(() -> x.carry(0, 0, 9, 9));
        x.placeKey(9, false);
        Due.state(() -> x.carry(0, 0, 0, 9));
        Due.is(5, () -> x.placeCount(5));
        // Keys are asked ahead of quiet times and of loads.
        x.placeQuiet(0, 0, 0);
        Due.state(() -> x.carry(0, 0, 0, 9));
        // And behind what stops, in this order.
        x.ownerClaim(0, 0, 0);
        Due.is(3, () -> x.carry(0, 0, 0, 9));
    }

    /** Forty rows, and no more; what stops is told all the same. */
    private static void fullOfRows() {
        Supplier<DigHouse> full = () -> {
            DigHouse x = Houses.objects(2);
            x.place(-1, 1000);
            x.place(-1, 1);
            x.room(0);
            x.placeBox(1);
            for (int k = 0; k < 40; k++) {
                Due.is(0, () -> x.carry(0, 0, 0, 0));
            }
            return x;
        };
        DigHouse x = full.get();
        Due.is(40, () -> x.placeCount(5));
        Due.state(() -> x.carry(0, 0, 0, 0));
        Due.state(() -> x.carry(0, 1, 0, 0));
        Due.state(() -> x.pack(0, 1));
        Due.state(() -> x.pack(0, 0));
        Due.state(() -> x.lose(0));
        Due.element(() -> x.carry(0, 2, 0, 0));
        Due.element(() -> x.pack(0, 2));
        Due.is(0, () -> x.carry(1, 0, 0, 0));
        x.spare(0, 0);
        x.lamp(0, 1);
        Due.is(5, () -> x.carry(0, 0, 0, 0));
        x.ownerClaim(0, 0, 0);
        Due.is(3, () -> x.carry(0, 0, 0, 0));
        Due.is(6, () -> x.pack(0, 1));
        Due.state(() -> x.lose(0));
        Due.is(0, () -> x.placeHistory(0, 39, 0));
        Due.element(() -> x.placeHistory(0, 40, 0));
        // Not only places are rows.
        DigHouse y = Houses.objects(2);
        y.place(-1, 1000);
        for (int k = 0; k < 20; k++) {
            Due.is(0, () -> y.carry(0, 0, 0, 0));
            Due.yes(() -> y.lose(0));
        }
        Due.state(() -> y.lose(0));
        Due.no(() -> y.lose(1));
    }

    /** As much light as it may have is too much; with a lamp of 0 it may come. */
    private static void light() {
        DigHouse x = Houses.museum();
        x.lamp(0, 1);
        Due.is(0, () -> x.carry(0, 0, 0, 0));
        x.hour(0, 0);
        x.hour(0, 0);
        Due.is(2, () -> x.light(0));
        Due.is(0, () -> x.carry(0, 0, 0, 0));
        x.spare(0, 3);
        Due.is(0, () -> x.carry(0, 0, 0, 0));
        x.spare(0, 2);
        Due.is(5, () -> x.carry(0, 0, 0, 0));
        x.spare(0, 1);
        Due.is(5, () -> x.carry(0, 0, 0, 0));
        x.spare(0, -1);
        Due.is(0, () -> x.carry(0, 0, 0, 0));
        x.spare(0, 0);
        Due.is(5, () -> x.carry(0, 0, 0, 0));
        Due.is(0, () -> x.carry(0, 1, 0, 0));
        Due.is(0, () -> x.carry(0, 9, 0, 0));
        x.lamp(0, 0);
        Due.is(0, () -> x.carry(0, 0, 0, 0));
        x.spare(1, 0);
        x.lamp(1, 5000);
        Due.is(5, () -> x.carry(1, 1, 0, 0));
        // A loan's broken term ahead of light, a claim ahead of both; each of them up to the day or hour that ends it.
        Houses.contract(x, "z=1");
        x.lend(0, 1, 0, 0);
        x.hour(0, 0);
        Due.is(4, () -> x.carry(1, 1, 0, 0));
        Due.is(4, () -> x.carry(1, 9, 0, 0));
        x.ownerClaim(1, 0, 1);
        Due.is(4, () -> x.carry(1, 1, 0, 0));
        x.pass(1);
        Due.is(3, () -> x.carry(1, 1, 0, 0));
        x.ownerSettle(0, 2);
        Due.is(3, () -> x.carry(1, 1, 0, 0));
        x.pass(1);
        Due.is(4, () -> x.carry(1, 1, 0, 0));
        x.hour(0, 0);
        Due.is(5, () -> x.carry(1, 1, 0, 0));
    }

    private static void packs() {
        DigHouse x = Houses.contexts(1);
        int[][] sizes = {{10, 20, 30}, {11, 21, 31}, {10, 21, 31}, {31, 20, 11}, {21, 30, 11}, {31, 11, 21}};
        for (int o = 0; o < 6; o++) {
            x.find(0, 0, -1);
            x.object(o, sizes[o][0], sizes[o][1], sizes[o][2], 100);
        }
        for (int o = 1; o < 6; o++) {
            int object = o;
            Due.is(1, () -> x.pack(0, object));
            x.placeBox(o);
        }
        int[] due = {1, 0, 2, 2, 2, 0};
        for (int o = 0; o < 6; o++) {
            int box = o;
            Due.is(due[box], () -> x.pack(0, box));
        }
        x.placeKeys(0, 1);
        Due.is(3, () -> x.pack(0, 1));
        Due.is(2, () -> x.pack(0, 2));
        x.placeKeys(0, 2);
        Due.is(3, () -> x.pack(0, 1));
        x.placeKeys(0, 0);
        x.placeBox(0);
        Due.is(1, () -> x.pack(0, 0));
        // Object 0 is in box 5: that may not go into it, and neither may what holds that.
        Due.is(1, () -> x.pack(5, 0));
        loads();
    }

    /** A box that has not been anywhere yet holds nothing, whatever the hour is at which others were moved. */
    private static void newBoxes() {
        for (int hours = 0; hours < 4; hours++) {
            DigHouse x = Houses.contexts(1);
            for (int o = 0; o < 3; o++) {
                x.find(0, 0, -1);
                x.object(o, 10 + o, 20 + o, 30 + o, 100);
                x.placeBox(o);
            }
            x.place(-1, 1000);
            for (int h = 0; h < hours; h++) {
                x.hour(0, 0);
            }
            Due.is(0, () -> x.carry(0, 0, 0, 0));
            Due.is(0, () -> x.pack(0, 1));
            Due.is(0, () -> x.pack(1, 2));
            Due.is(-1, () -> x.placeWhere(0, 10));
        }
    }

    private static void loads() {
        DigHouse x = Houses.contexts(1);
        for (int o = 0; o < 4; o++) {
            x.find(0, 0, -1);
            x.object(o, 10 + o, 20 + o, 30 + o, 100);
            x.placeBox(o);
        }
        x.place(-1, 200);
        x.place(-1, 199);
        Due.is(0, () -> x.carry(1, 1, 0, 0));
        Due.is(5, () -> x.pack(0, 1));
        Due.is(0, () -> x.carry(1, 0, 0, 0));
        Due.is(0, () -> x.pack(0, 1));
        Due.is(0, () -> x.placeWhere(0, 0));
        // Over any others: 3 may not come into 0, when 0 is in 1, that is in 3; nor 0 into itself.
        Due.is(0, () -> x.pack(1, 3));
        Due.is(1, () -> x.pack(3, 3));
        Due.is(1, () -> x.pack(3, 0));
        Due.is(1, () -> x.pack(3, 1));
        Due.is(-1, () -> x.placeWhere(0, 0));
        // A box that is nowhere bears all.
        Due.is(0, () -> x.pack(2, 3));
        Due.is(2, () -> x.carry(3, 0, 0, 0));
        x.placeQuiet(1, 0, 0);
        Due.is(1, () -> x.carry(0, 1, 0, 0));
        x.hour(0, 0);
        Due.is(0, () -> x.carry(0, 1, 0, 0));
        x.placeQuiet(1, 1, 1);
        Due.is(4, () -> x.pack(0, 2));
        x.placeKeys(0, 1);
        Due.is(3, () -> x.pack(0, 2));
        x.ownerClaim(0, 0, 1);
        Due.is(3, () -> x.pack(0, 2));
        x.ownerClaim(0, 0, 0);
        Due.is(6, () -> x.pack(0, 2));
        Due.is(6, () -> x.pack(0, 0));
    }

    private static void loses() {
        DigHouse x = Houses.contexts(1);
        for (int o = 0; o < 2; o++) {
            x.find(0, 0, -1);
            x.object(o, 1 + o, 1 + o, 1 + o, 1);
            x.placeBox(o);
        }
        x.place(-1, 10);
        Due.no(() -> x.lose(0));
        x.pack(0, 1);
        Due.no(() -> x.lose(0));
        x.carry(1, 0, 0, 0);
        Due.no(() -> x.lose(0));
        Due.yes(() -> x.lose(1));
        Due.no(() -> x.lose(1));
        x.carry(0, 0, 0, 0);
        Due.yes(() -> x.lose(0));
        Due.is(5, () -> x.placeCount(5));
        DigHouse none = new DigHouse();
        Due.element(() -> none.lose(0));
        Due.element(() -> none.pack(0, 0));
    }

    /** The present hour of PLACES becomes that of the house by what moves something, and by nothing else. */
    private static void presentOfPlaces() {
        DigHouse x = Houses.objects(3);
        x.place(-1, 150);
        x.place(-1, 100);
        x.placeBox(1);
        x.hour(0, 0);
        Due.is(0, () -> x.placeCount(4));
        Due.no(() -> x.lose(0));
        Due.is(2, () -> x.pack(0, 1));
        Due.is(0, () -> x.placePlanned(2, 1, 0, 5));
        Due.is(2, () -> x.carry(0, 1, 0, 0));
        x.placeQuiet(0, 1, 1);
        Due.is(1, () -> x.carry(0, 0, 0, 0));
        x.ownerClaim(0, 0, 0);
        Due.is(3, () -> x.carry(0, 0, 0, 0));
        x.ownerSettle(0, 0);
        Due.is(0, () -> x.placeCount(4));
        Due.is(0, () -> x.placePlanned(2, 1, 0, 5));
        x.hour(0, 0);
        Due.is(0, () -> x.carry(0, 0, 0, 0));
        Due.is(2, () -> x.placeCount(4));
        Due.argument(() -> x.placePlanned(2, 1, 1, 5));
        Due.is(0, () -> x.placePlanned(2, 1, 2, 5));
        x.hour(0, 0);
        Due.is(2, () -> x.placeCount(4));
        Due.yes(() -> x.lose(0));
        Due.is(3, () -> x.placeCount(4));
        x.pass(2);
        x.hour(0, 0);
        DigHouse y = Houses.contexts(1);
        y.find(0, 0, 0);
        y.find(0, 0, 0);
        y.object(0, 1, 1, 1, 1);
        y.object(1, 2, 2, 2, 1);
        y.placeBox(1);
        y.pass(1000);
        Due.is(0, () -> y.placeCount(4));
        Due.is(0, () -> y.pack(0, 1));
        Due.is(24000, () -> y.placeCount(4));
    }

    private static void lends() {
        Supplier<DigHouse> house = () -> {
            DigHouse x = Houses.contracts(10, 8, "z<2");
            x.pass(4);
            x.pass(1);
            return x;
        };
        Bounds.of(house, "lend", 3, 4, 5, 60).index(0, 0, 7).element(1, 0, 9).argument(2, 5, 60).argument(3, 5, 100000).hold();
        Bounds.of(house, "lend", 0, 0, 100000, 100000).index(0, 0, 7).element(1, 0, 9).argument(2, 5, 100000)
            .argument(3, 100000, 100000).hold();
        Supplier<DigHouse> all = () -> {
            DigHouse x = house.get();
            for (int l = 0; l < 20; l++) {
                int loan = l;
                Due.is(loan, () -> x.lend(loan % 8, loan % 10, 100 + loan, 100 + loan));
            }
            return x;
        };
        Bounds.of(house, "lend", 3, 4, 5, 60).index(0, 0, 7).element(1, 0, 9).argument(2, 5, 60).argument(3, 5, 100000).full(all);
        DigHouse x = all.get();
        // Too many are there: that is asked ahead of claims and of clashes.
        x.ownerClaim(0, 0, 0);
        Due.state(() -> x.lend(0, 0, 5, 5));
        Due.state(() -> x.lend(0, 1, 101, 101));
        DigHouse y = Houses.contracts(2, 1, "z<2");
        for (int h = 0; h < 24; h++) {
            y.hour(0, 0);
        }
        Due.argument(() -> y.lend(0, 0, 0, 5));
        Due.is(0, () -> y.lend(0, 0, 5, 10));
        Due.is(-1, () -> y.lend(0, 0, 10, 10));
        Due.is(-1, () -> y.lend(0, 0, 1, 5));
        Due.is(-1, () -> y.lend(0, 0, 1, 100000));
        Due.is(-1, () -> y.lend(0, 0, 7, 8));
        Due.is(1, () -> y.lend(0, 0, 1, 4));
        Due.is(2, () -> y.lend(0, 0, 11, 100000));
        Due.is(3, () -> y.lend(0, 1, 5, 10));
        y.termRequest(1, 0, 100000);
        Due.is(4, () -> y.lend(0, 1, 11, 11));
        // A claim stops it ahead of a clash, from its day on, as long as it is not settled by this day.
        y.ownerClaim(0, 0, 2);
        Due.is(-1, () -> y.lend(0, 0, 5, 5));
        y.ownerClaim(0, 0, 1);
        Due.is(-2, () -> y.lend(0, 0, 5, 5));
        Due.is(-2, () -> y.lend(0, 0, 100000, 100000));
        Due.argument(() -> y.lend(0, 0, 0, 5));
        y.ownerSettle(1, 1);
        Due.is(-1, () -> y.lend(0, 0, 5, 5));
        DigHouse none = Houses.objects(1);
        Due.index(() -> none.lend(0, 9, -1, 5));
    }

    private static void treats() {
        Supplier<DigHouse> house = () -> Houses.methods(10, 12, "");
        Bounds.of(house, "treat", 3, 4, 5, 6).element(0, 0, 9).index(1, 0, 11).index(2, 0, 7).index(3, 0, 7).hold();
        Supplier<DigHouse> full = () -> {
            DigHouse x = Houses.methods(10, 12, "");
            x.methodRight(0, 11, true);
            for (int o = 0; o < 10; o += 9) {
                int object = o;
                for (int k = 0; k < 30; k++) {
                    Due.is(0, () -> x.treat(object, 11, 0, 0));
                }
            }
            x.ownerClaim(0, 0, 0);
            return x;
        };
        Bounds.of(house, "treat", 0, 4, 5, 6).element(0, 0, 9).index(1, 0, 11).index(2, 0, 7).index(3, 0, 7).full(full);
        DigHouse x = full.get();
        Due.is(30, () -> x.methodRow(0, -1, 0));
        Due.is(600, () -> x.treat(1, 0, 0, 0));
        Due.is(0, () -> x.treat(1, 11, 0, 7));
        Due.is(61, () -> x.methodCount(3));
        Due.index(() -> x.methodRow(0, 30, 0));
        DigHouse none = Houses.objects(1);
        Due.index(() -> none.treat(0, 0, 0, 0));
        Due.element(() -> none.treat(1, 0, 8, 8));
    }

    /** The reasons in their order: workshop, claim, loan, those of the step, and the second person. */
    private static void treatOrder() {
        DigHouse x = Houses.methods(1, 1, "i,u3*2,b9");
        x.place(-1, 1000);
        x.place(0, 1000);
        x.place(-1, 1000);
        x.methodPart(0, 9);
        x.workshop(0);
        x.ownerClaim(0, 0, 0);
        Houses.contract(x, "z=1");
        Due.is(800, () -> x.treat(0, 0, 0, 0));
        Due.is(3, () -> x.carry(0, 0, 0, 0));
        x.ownerSettle(0, 0);
        x.carry(0, 2, 0, 0);
        x.lend(0, 0, 0, 0);
        x.hour(0, 0);
        Due.is(800, () -> x.treat(0, 0, 0, 0));
        x.workshop(2);
        Due.is(802, () -> x.treat(0, 0, 0, 0));
        x.ownerClaim(0, 0, 0);
        Due.is(801, () -> x.treat(0, 0, 0, 0));
        x.ownerSettle(1, 0);
        x.termShield(0, true);
        x.hour(0, 0);
        // A loan that is good is out, too.
        Due.is(802, () -> x.treat(0, 0, 0, 0));
        x.workshop(1);
        Due.is(800, () -> x.treat(0, 0, 0, 0));
        Due.is(0, () -> x.carry(0, 1, 0, 0));
        Due.is(802, () -> x.treat(0, 0, 0, 0));
        x.workshop(0);
        x.pass(1);
        x.hour(0, 0);
        Due.is(100, () -> x.treat(0, 0, 0, 0));
        // It is the object's own loan that matters.
        DigHouse z = Houses.methods(3, 1, "");
        Houses.contract(z, "z=1");
        z.lend(0, 1, 0, 0);
        z.hour(0, 0);
        Due.is(600, () -> z.treat(0, 0, 0, 0));
        Due.is(802, () -> z.treat(1, 0, 0, 0));
        Due.is(600, () -> z.treat(2, 0, 0, 0));
        z.place(-1, 1000);
        Due.is(0, () -> z.carry(0, 0, 0, 0));
        Due.is(4, () -> z.carry(1, 0, 0, 0));
        Due.is(0, () -> z.carry(2, 0, 0, 0));
        DigHouse y = Houses.methods(2, 1, "i,u3*2");
        Due.is(503, () -> y.treat(0, 0, 0, 0));
        y.methodStock(3, 1);
        Due.is(503, () -> y.treat(0, 0, 0, 0));
        y.methodStock(3, 2);
        Due.is(600, () -> y.treat(0, 0, 0, 0));
        y.methodRight(0, 0, true);
        Due.is(700, () -> y.treat(0, 0, 0, 0));
        Due.is(700, () -> y.treat(0, 0, 0, 7));
        Due.is(600, () -> y.treat(0, 0, 7, 0));
        y.methodRight(7, 0, true);
        Due.is(700, () -> y.treat(0, 0, 7, 7));
        Due.is(0, () -> y.treat(0, 0, 0, 7));
        Due.is(503, () -> y.treat(0, 0, 0, 7));
        Due.is(1, () -> y.methodAbout(3, 0));
        Due.is(2, () -> y.methodAbout(3, 2));
        Due.is(7, () -> y.methodRow(0, 0, 3));
        y.workshop(-1);
        Due.is(503, () -> y.treat(1, 0, 0, 7));
        Due.index(() -> y.treat(0, 0, MIN, MAX));
    }
}
